/** Promises 1 to 4: a new object, type, back, wipe. */
public final class TypingTest {
    private static final Check check = new Check();

    public static void main(String[] args) {
        promise1NewObject();
        promise2Type();
        promise3Back();
        promise4Wipe();
        check.end();
    }

    private static void promise1NewObject() {
        Leastlex x = new Leastlex();
        for (int net = 0; net < 4; net++) {
            check.same("1: size", 0, x.size(net));
            check.same("1: states", 0, x.states(net));
            check.same("1: edges", 0, x.edges(net));
            check.same("1: beginnings", 0, x.beginnings(net));
            check.same("1: packed", 0, x.packed(net));
        }
        check.same("1: nothing typed", 0, x.wipe());
        check.same("1: checksum", 217L, x.checksum());
        check.same("1: sound", true, x.isSound());
        check.raises("1: no version", IndexOutOfBoundsException.class, () -> x.lay(0, 0));
        check.same("1: gap", 1, x.setGap(2));
        for (char one = 'a'; one <= 'h'; one++) {
            for (char two = 'a'; two <= 'h'; two++) {
                if (one != two) {
                    check.same("1: price " + one + two, 1, new Leastlex().setPrice(one, two, 5));
                }
            }
        }
        Leastlex y = new Leastlex();
        Check.typed(x, "a").add(0);
        check.same("1: objects are apart", 0, y.size(0));
        check.same("1: what is typed too", 0, y.wipe());
    }

    private static void promise2Type() {
        Leastlex x = new Leastlex();
        String signs = "abcdefgh?*";
        for (int i = 0; i < signs.length(); i++) {
            check.same("2: type", i + 1, x.type(signs.charAt(i)));
        }
        check.refuses("2: type an 11th", x, IllegalStateException.class, () -> x.type('a'));
        check.refuses("2: no sign, and 10 typed", x, IllegalArgumentException.class, () -> x.type('i'));
        for (int i = signs.length() - 1; i >= 0; i--) {
            check.same("2: what was typed", signs.charAt(i), x.back());
        }
        for (int first = 0; first <= Character.MAX_VALUE; first += 256) {
            refusesSigns(first, signs);
        }
    }

    /** Of 256 signs those that are none are refused by one object, as no object is used for more than 512 calls. */
    private static void refusesSigns(int first, String signs) {
        Leastlex x = new Leastlex();
        for (int sign = first; sign < first + 256; sign++) {
            char wrong = (char) sign;
            if (signs.indexOf(wrong) < 0) {
                check.raises("2: type " + sign, IllegalArgumentException.class, () -> x.type(wrong));
            }
        }
        check.same("2: nothing typed by wrong signs", 1, x.type('h'));
    }

    private static void promise3Back() {
        Leastlex x = new Leastlex();
        check.refuses("3: back of nothing", x, UnsupportedOperationException.class, () -> x.back());
        Check.typed(x, "a?*h");
        check.same("3: back", 'h', x.back());
        check.same("3: back", '*', x.back());
        check.same("3: type behind", 3, x.type('b'));
        check.same("3: back", 'b', x.back());
        check.same("3: back", '?', x.back());
        check.same("3: back", 'a', x.back());
        check.refuses("3: back of nothing again", x, UnsupportedOperationException.class, () -> x.back());
    }

    private static void promise4Wipe() {
        Leastlex x = new Leastlex();
        check.same("4: wipe of nothing", 0, x.wipe());
        x.type('?');
        check.same("4: wipe", 1, x.wipe());
        check.same("4: wipe again", 0, x.wipe());
        Check.typed(x, "abcdefgh??");
        check.same("4: wipe of 10", 10, x.wipe());
        check.raises("4: nothing is left", UnsupportedOperationException.class, () -> x.back());
        check.same("4: type after it", 1, x.type('c'));
    }
}
