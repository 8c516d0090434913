import java.util.NoSuchElementException;

/** Promises 19 to 23: setGap, setPrice, distance, near, nearAt. */
public final class NeighboursTest {
    private static final Check check = new Check();
    private static final int[] NO_NETS = {-1, 4, Integer.MIN_VALUE, Integer.MAX_VALUE};
    private static final String[] NO_WORDS = {"", "?", "*", "a?", "*a", "abcdefgha", "aaaaaaaaaa"};

    public static void main(String[] args) {
        promise19SetGap();
        promise20SetPrice();
        promise21Distance();
        promise22Near();
        promise23NearAt();
        check.end();
    }

    private static void promise19SetGap() {
        Leastlex x = Check.with("ab");
        check.same("19: setGap", 1, x.setGap(3));
        check.same("19: setGap", 3, x.setGap(2));
        for (int gap : new int[] {0, 4, -1, Integer.MIN_VALUE, Integer.MAX_VALUE}) {
            check.refuses("19: gap " + gap, x, IllegalArgumentException.class, () -> x.setGap(gap));
        }
        check.same("19: it counts", 4, Check.typed(x, "aabb").distance(0, 0));
        check.same("19: unchanged by wrong ones", 2, x.setGap(1));
    }

    private static void promise20SetPrice() {
        Leastlex x = Check.with("a");
        check.same("20: setPrice", 1, x.setPrice('a', 'b', 5));
        check.same("20: the same both ways", 5, x.setPrice('b', 'a', 0));
        check.same("20: the same both ways", 0, x.setPrice('a', 'b', 2));
        check.same("20: others stay", 1, x.setPrice('a', 'c', 1));
        check.same("20: others stay", 1, x.setPrice('h', 'b', 4));
        check.same("20: others stay", 4, x.setPrice('b', 'h', 1));
        check.same("20: it counts", 2, Check.typed(x, "b").distance(0, 0));
        for (int price : new int[] {-1, 6, Integer.MIN_VALUE, Integer.MAX_VALUE}) {
            check.refuses("20: price " + price, x, IllegalArgumentException.class, () -> x.setPrice('a', 'b', price));
        }
        for (char sign : new char[] {'i', '`', '?', '*', 'A', 0, Character.MAX_VALUE}) {
            check.refuses("20: letter", x, IllegalArgumentException.class, () -> x.setPrice(sign, 'b', 1));
            check.refuses("20: other", x, IllegalArgumentException.class, () -> x.setPrice('b', sign, 1));
            check.refuses("20: both", x, IllegalArgumentException.class, () -> x.setPrice(sign, sign, 1));
        }
        check.refuses("20: the same", x, IllegalArgumentException.class, () -> x.setPrice('h', 'h', 0));
        check.same("20: unchanged by wrong ones", 2, x.setPrice('a', 'b', 2));
    }

    private static int between(Leastlex x, String typed, String word) {
        Check.typed(x, word).add(3);
        int distance = Check.typed(x, typed).distance(3, 0);
        Check.typed(x, word).drop(3);
        return distance;
    }

    private static void promise21Distance() {
        Leastlex x = new Leastlex();
        check.same("21: the same", 0, between(x, "abc", "abc"));
        check.same("21: changed", 1, between(x, "abc", "adc"));
        check.same("21: left out", 1, between(x, "abc", "ac"));
        check.same("21: put in", 1, between(x, "ac", "abc"));
        check.same("21: two letters exchanged", 2, between(x, "ab", "ba"));
        check.same("21: all unlike", 8, between(x, "aaaaaaaa", "bbbbbbbb"));
        check.same("21: 1 to 8", 7, between(x, "a", "abcdefgh"));
        x.setPrice('a', 'b', 5);
        check.same("21: out and in is cheaper", 2, between(x, "a", "b"));
        x.setGap(3);
        check.same("21: the change is cheaper", 5, between(x, "a", "b"));
        check.same("21: gaps count", 21, between(x, "abcdefgh", "c"));
        x.setPrice('a', 'c', 0);
        x.setPrice('c', 'b', 0);
        check.same("21: no letter is changed twice", 5, between(x, "a", "b"));
        check.same("21: for nothing", 0, between(x, "ac", "ca"));
        check.same("21: the other way", between(x, "abcab", "bcc"), between(x, "bcc", "abcab"));
        x.setPrice('g', 'h', 5);
        check.same("21: most", 40, between(x, "gggggggg", "hhhhhhhh"));
        Check.adding(x, 0, "ab", "b");
        Check.typed(x, "b");
        for (int net : NO_NETS) {
            check.refuses("21: net " + net, x, IndexOutOfBoundsException.class, () -> x.distance(net, 0));
        }
        for (int number : new int[] {2, -1, Integer.MIN_VALUE, Integer.MAX_VALUE}) {
            check.refuses("21: number " + number, x, NoSuchElementException.class, () -> x.distance(0, number));
        }
        for (String typed : NO_WORDS) {
            Check.typed(x, typed);
            check.refuses("21: typed " + typed, x, UnsupportedOperationException.class, () -> x.distance(0, 0));
            check.refuses("21: typed first", x, UnsupportedOperationException.class, () -> x.distance(0, 9));
            check.refuses("21: net first", x, IndexOutOfBoundsException.class, () -> x.distance(4, 0));
        }
    }

    private static void promise22Near() {
        Leastlex x = Check.with("abcd", "abc", "abd", "ab", "hhhhhhhh");
        Check.typed(x, "abc");
        check.same("22: near 0", 1, x.near(0, 0));
        check.same("22: near 1", 4, x.near(0, 1));
        check.same("22: near 7", 4, x.near(0, 7));
        check.same("22: near 8", 5, x.near(0, 8));
        check.same("22: near 9", 5, x.near(0, 9));
        check.same("22: near 9, empty net", 0, x.near(1, 9));
        x.setGap(2);
        check.same("22: near 1 by gap 2", 2, x.near(0, 1));
        x.setPrice('c', 'd', 0);
        check.same("22: near 0 by price 0", 2, x.near(0, 0));
        for (int limit : new int[] {-1, 10, Integer.MIN_VALUE, Integer.MAX_VALUE}) {
            check.refuses("22: limit " + limit, x, IllegalArgumentException.class, () -> x.near(0, limit));
            check.refuses("22: net first", x, IndexOutOfBoundsException.class, () -> x.near(4, limit));
        }
        for (int net : NO_NETS) {
            check.refuses("22: net " + net, x, IndexOutOfBoundsException.class, () -> x.near(net, 0));
        }
        for (String typed : NO_WORDS) {
            Check.typed(x, typed);
            check.refuses("22: typed " + typed, x, UnsupportedOperationException.class, () -> x.near(0, 0));
            check.refuses("22: limit first", x, IllegalArgumentException.class, () -> x.near(0, 10));
        }
    }

    private static String ranked(Leastlex x, int limit) {
        StringBuilder words = new StringBuilder();
        for (int index = 0; index < x.near(0, limit); index++) {
            words.append(index == 0 ? "" : " ").append(Check.word(x, 0, x.nearAt(0, limit, index)));
        }
        return words.toString();
    }

    private static void promise23NearAt() {
        Leastlex x = Check.with("abb", "aba", "abc", "bbb", "ab", "hb");
        Check.typed(x, "abb");
        check.same("23: by distance, then number", "abb ab aba abc bbb hb", ranked(x, 2));
        Check.typed(x, "hb").setCount(0, 999);
        Check.typed(x, "bbb").setCount(0, 3);
        Check.typed(x, "abc").setCount(0, 3);
        Check.typed(x, "abb");
        check.same("23: by distance, then count", "abb abc bbb ab aba hb", ranked(x, 9));
        check.same("23: by limit 1", "abb abc bbb ab aba", ranked(x, 1));
        check.same("23: by limit 0", "abb", ranked(x, 0));
        check.same("23: not the typed one", "hb", ranked(Check.typed(x, "h"), 1));
        Check.typed(x, "abb");
        for (int index : new int[] {5, -1, Integer.MIN_VALUE, Integer.MAX_VALUE}) {
            check.refuses("23: index " + index, x, NoSuchElementException.class, () -> x.nearAt(0, 1, index));
        }
        check.refuses("23: empty net", x, NoSuchElementException.class, () -> x.nearAt(1, 9, 0));
        for (int limit : new int[] {-1, 10, Integer.MIN_VALUE, Integer.MAX_VALUE}) {
            check.refuses("23: limit " + limit, x, IllegalArgumentException.class, () -> x.nearAt(0, limit, 0));
            check.refuses("23: net first", x, IndexOutOfBoundsException.class, () -> x.nearAt(4, limit, 0));
        }
        for (int net : NO_NETS) {
            check.refuses("23: net " + net, x, IndexOutOfBoundsException.class, () -> x.nearAt(net, 0, 0));
        }
        for (String typed : NO_WORDS) {
            Check.typed(x, typed);
            check.refuses("23: typed " + typed, x, UnsupportedOperationException.class, () -> x.nearAt(0, 0, 99));
            check.refuses("23: limit first", x, IllegalArgumentException.class, () -> x.nearAt(0, 10, 0));
        }
    }
}
