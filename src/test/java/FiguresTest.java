import java.lang.reflect.Field;

/** Promises 41 to 44: checksum, stateShare, meanLength, isSound. */
public final class FiguresTest {
    private static final Check check = new Check();
    private static final int[] NO_NETS = {-1, 4, Integer.MIN_VALUE, Integer.MAX_VALUE};

    public static void main(String[] args) {
        promise41Checksum();
        promise42StateShare();
        promise43MeanLength();
        promise44IsSound();
        check.end();
    }

    private static void promise41Checksum() {
        Leastlex x = new Leastlex();
        check.same("41: without words", 7L * 31, x.checksum());
        Check.typed(x, "ab?*");
        check.same("41: signs are counted", 7L * 31 + 4, x.checksum());
        Check.typed(x, "ab").add(0);
        check.same("41: a word", ((7L * 31 + 11) * 31 + 1) * 31 + 2, x.checksum());
        x.setCount(0, 999);
        x.wipe();
        check.same("41: its count", ((7L * 31 + 11) * 31 + 999) * 31, x.checksum());
        Check.adding(x, 3, "hhhhhhhh");
        Check.adding(x, 0, "aa");
        long largest = 43046720;
        long aa = (7L * 31 + 10) * 31 + 1;
        long ab = (aa * 31 + 11) * 31 + 999;
        check.same("41: by numbers, net by net", ((ab * 31 + largest) * 31 + 1) * 31, x.checksum());
        Leastlex full = Check.with(Check.threes(50));
        long sum = 7;
        for (String word : Check.threes(50)) {
            int value = 0;
            for (char letter : word.toCharArray()) {
                value = value * 9 + letter - 'a' + 1;
            }
            sum = (sum * 31 + value) * 31 + 1;
        }
        check.same("41: wraps around", sum * 31, full.checksum());
        long before = full.checksum();
        full.keep(0);
        full.setGap(3);
        full.setPrice('a', 'b', 3);
        full.addRule(1);
        check.same("41: of words and signs alone", before, full.checksum());
    }

    private static void promise42StateShare() {
        check.same("42: one word", 1.0f, Check.with("abc").stateShare(0));
        check.same("42: 3 of 5", 3.0f / 5.0f, Check.with("ac", "bc").stateShare(0));
        check.same("42: 2 of 3", 2.0f / 3.0f, Check.with("a", "b").stateShare(0));
        check.same("42: 5 of 59", 5.0f / 59.0f, Check.with(Check.threes(50)).stateShare(0));
        Leastlex x = new Leastlex();
        check.refuses("42: without words", x, ArithmeticException.class, () -> x.stateShare(0));
        Check.typed(x, "a").add(1);
        check.refuses("42: without words", x, ArithmeticException.class, () -> x.stateShare(0));
        x.drop(1);
        check.refuses("42: without words again", x, ArithmeticException.class, () -> x.stateShare(1));
        for (int net : NO_NETS) {
            check.refuses("42: net " + net, x, IndexOutOfBoundsException.class, () -> x.stateShare(net));
        }
    }

    private static void promise43MeanLength() {
        check.same("43: one word", 3.0, Check.with("abc").meanLength(0));
        check.same("43: 1 and 2", 1.5, Check.with("a", "bc").meanLength(0));
        check.same("43: 1, 2 and 8", 11.0 / 3.0, Check.with("a", "bc", "abcdefgh").meanLength(0));
        check.same("43: 50 of 3", 3.0, Check.with(Check.threes(50)).meanLength(0));
        Leastlex x = new Leastlex();
        check.refuses("43: without words", x, ArithmeticException.class, () -> x.meanLength(0));
        Check.typed(x, "a").add(1);
        x.drop(1);
        check.refuses("43: without words again", x, ArithmeticException.class, () -> x.meanLength(1));
        for (int net : NO_NETS) {
            check.refuses("43: net " + net, x, IndexOutOfBoundsException.class, () -> x.meanLength(net));
        }
    }

    private static void promise44IsSound() {
        Leastlex x = new Leastlex();
        check.same("44: without words", true, x.isSound());
        String[] words = {"a", "ab", "aba", "abab", "acab", "bc", "hhhhhhhh", "bbbbbbbb", "bbab"};
        for (int i = 0; i < words.length; i++) {
            Check.typed(x, words[i]).add(i % 4);
            check.same("44: with " + words[i], true, x.isSound());
        }
        x.keep(0);
        x.lay(0, 1);
        check.same("44: laid", true, x.isSound());
        for (int i = 0; i < words.length; i += 4) {
            Check.typed(x, words[i]).drop(0);
            check.same("44: without " + words[i], true, x.isSound());
        }
        check.same("44: full", true, Check.with(Check.threes(50)).isSound());
        for (int net = 0; net < 4; net++) {
            check.same("44: broken net " + net, false, broken(net, 0, 1).isSound());
            check.same("44: broken net " + net, false, broken(net, 2, 3).isSound());
        }
    }

    /** No call makes a net unsound, so two of its words are exchanged where they are held. */
    private static Leastlex broken(int net, int one, int other) {
        Leastlex x = Check.adding(new Leastlex(), net, "a", "ab", "b", "c");
        try {
            Object broken = ((Object[]) held(x, "nets"))[net];
            long[] words = (long[]) held(broken, "words");
            long moved = words[one];
            words[one] = words[other];
            words[other] = moved;
        } catch (ReflectiveOperationException e) {
            throw new IllegalStateException("nets are held otherwise now", e);
        }
        return x;
    }

    private static Object held(Object holder, String name) throws ReflectiveOperationException {
        Field field = holder.getClass().getDeclaredField(name);
        field.setAccessible(true);
        return field.get(holder);
    }
}
