import java.util.NoSuchElementException;

/** Promises 11 to 18: states, edges, beginnings, shared, number, lengthOf, letterOf, beginning. */
public final class StatesTest {
    private static final Check check = new Check();
    private static final int[] NO_NETS = {-1, 4, Integer.MIN_VALUE, Integer.MAX_VALUE};
    private static final String[] NO_WORDS = {"", "?", "*", "a?", "*a", "abcdefgha", "aaaaaaaaaa"};

    public static void main(String[] args) {
        promises11To13StatesEdgesBeginnings();
        promise14Shared();
        promise15Number();
        promise16LengthOf();
        promise17LetterOf();
        promise18Beginning();
        check.end();
    }

    private static void figures(Leastlex x, int states, int edges, int beginnings) {
        String words = Check.words(x, 0);
        check.same("11: states of " + words, states, x.states(0));
        check.same("12: edges of " + words, edges, x.edges(0));
        check.same("13: beginnings of " + words, beginnings, x.beginnings(0));
    }

    private static void promises11To13StatesEdgesBeginnings() {
        figures(new Leastlex(), 0, 0, 0);
        figures(Check.with("a"), 2, 1, 2);
        figures(Check.with("a", "b", "c", "d", "e", "f", "g", "h"), 2, 8, 9);
        figures(Check.with("aaaaaaaa"), 9, 8, 9);
        // Rests of "" are a, aa, aaa; each beginning has others.
        figures(Check.with("a", "aa", "aaa"), 4, 3, 4);
        // a and b both go on by c alone.
        figures(Check.with("ac", "bc"), 3, 3, 5);
        // a goes on by c or ends, b by c alone.
        figures(Check.with("a", "ac", "bc"), 4, 4, 5);
        figures(Check.with("ac", "bc", "bd"), 4, 5, 6);
        // ab and b are alike, at unlike depths.
        figures(Check.with("abc", "bc"), 4, 4, 6);
        // aba, abc and c go on by b alone.
        figures(Check.with("abab", "abcb", "ab", "cb"), 5, 6, 9);
        figures(Check.with("ad", "ae", "bd", "be", "cd", "ce"), 3, 5, 10);
        Leastlex eight = Check.with("abcdefga", "bbcdefga", "cbcdefgb");
        // a and b are alike down to their last letters, c is not.
        figures(eight, 1 + 7 + 7 + 1, 3 + 7 + 7, 25);
        Leastlex full = Check.with(Check.threes(50));
        // aaa to agb: a goes on by a to f by all 8, by g by 2.
        check.same("11: states of a full net", 5, full.states(0));
        check.same("12: edges of a full net", 1 + 7 + 8 + 2, full.edges(0));
        check.same("13: beginnings of a full net", 1 + 1 + 7 + 50, full.beginnings(0));
        Leastlex x = Check.with("ab", "cb", "cd");
        figures(x, 4, 5, 6);
        Check.typed(x, "cd").drop(0);
        figures(x, 3, 3, 5);
        Check.typed(x, "cb").drop(0);
        figures(x, 3, 2, 3);
        Check.typed(x, "ab").drop(0);
        figures(x, 0, 0, 0);
        for (int net : NO_NETS) {
            check.refuses("11: net " + net, x, IndexOutOfBoundsException.class, () -> x.states(net));
            check.refuses("12: net " + net, x, IndexOutOfBoundsException.class, () -> x.edges(net));
            check.refuses("13: net " + net, x, IndexOutOfBoundsException.class, () -> x.beginnings(net));
        }
    }

    private static void promise14Shared() {
        Leastlex x = Check.adding(Check.with("a", "ab", "b", "ba", "bab"), 1, "a", "ab");
        check.same("14: shared", 2, x.shared(0, 1));
        check.same("14: shared", 2, x.shared(1, 0));
        check.same("14: with itself", x.states(0), x.shared(0, 0));
        check.same("14: with an empty one", 0, x.shared(0, 2));
        check.same("14: of an empty one", 0, x.shared(2, 0));
        check.same("14: of two empty ones", 0, x.shared(2, 3));
        Check.adding(x, 2, "cab", "ca");
        // The rests "", b or nothing, and ab or a, are alike though the beginnings are not.
        check.same("14: at unlike depths", 3, x.shared(1, 2));
        Check.adding(x, 3, "h");
        check.same("14: the last state", 1, x.shared(0, 3));
        Leastlex full = Check.adding(Check.with(Check.threes(50)), 1, Check.threes(50));
        check.same("14: full ones", 5, full.shared(0, 1));
        for (int net : NO_NETS) {
            check.refuses("14: net " + net, x, IndexOutOfBoundsException.class, () -> x.shared(net, 0));
            check.refuses("14: other " + net, x, IndexOutOfBoundsException.class, () -> x.shared(0, net));
            check.refuses("14: both " + net, x, IndexOutOfBoundsException.class, () -> x.shared(net, net));
        }
    }

    private static void promise15Number() {
        Leastlex x = Check.with("h", "b", "ba", "aaaaaaaa", "ab", "a", "c");
        String[] order = {"a", "aaaaaaaa", "ab", "b", "ba", "c", "h"};
        for (int number = 0; number < order.length; number++) {
            check.same("15: number of " + order[number], number, Check.typed(x, order[number]).number(0));
        }
        for (int net : NO_NETS) {
            check.refuses("15: net " + net, x, IndexOutOfBoundsException.class, () -> x.number(net));
        }
        check.refuses("15: other net", x, NoSuchElementException.class, () -> x.number(1));
        for (String typed : NO_WORDS) {
            Check.typed(x, typed);
            check.refuses("15: typed " + typed, x, UnsupportedOperationException.class, () -> x.number(0));
            check.refuses("15: no net first", x, IndexOutOfBoundsException.class, () -> x.number(4));
        }
        Check.typed(x, "aa");
        check.refuses("15: does not have it", x, NoSuchElementException.class, () -> x.number(0));
    }

    private static void promise16LengthOf() {
        Leastlex x = Check.with("h", "abcdefgh", "ab");
        check.same("16: lengthOf", 2, x.lengthOf(0, 0));
        check.same("16: lengthOf", 8, x.lengthOf(0, 1));
        check.same("16: lengthOf", 1, x.lengthOf(0, 2));
        for (int number : new int[] {3, -1, Integer.MIN_VALUE, Integer.MAX_VALUE}) {
            check.refuses("16: number " + number, x, NoSuchElementException.class, () -> x.lengthOf(0, number));
            check.refuses("16: no net first", x, IndexOutOfBoundsException.class, () -> x.lengthOf(4, number));
        }
        check.refuses("16: empty net", x, NoSuchElementException.class, () -> x.lengthOf(3, 0));
        for (int net : NO_NETS) {
            check.refuses("16: net " + net, x, IndexOutOfBoundsException.class, () -> x.lengthOf(net, 0));
        }
    }

    private static void promise17LetterOf() {
        Leastlex x = Check.with("hgfedcba", "ab");
        check.same("17: letters", "ab hgfedcba", Check.words(x, 0));
        check.same("17: letterOf", 'b', x.letterOf(0, 0, 1));
        for (int index : new int[] {2, -1, 8, Integer.MIN_VALUE, Integer.MAX_VALUE}) {
            check.refuses("17: index " + index, x, NoSuchElementException.class, () -> x.letterOf(0, 0, index));
        }
        check.refuses("17: index 8 of 8", x, NoSuchElementException.class, () -> x.letterOf(0, 1, 8));
        for (int number : new int[] {2, -1, Integer.MIN_VALUE, Integer.MAX_VALUE}) {
            check.refuses("17: number " + number, x, NoSuchElementException.class, () -> x.letterOf(0, number, 0));
        }
        for (int net : NO_NETS) {
            check.refuses("17: net " + net, x, IndexOutOfBoundsException.class, () -> x.letterOf(net, 0, 0));
            check.refuses("17: net first", x, IndexOutOfBoundsException.class, () -> x.letterOf(net, -1, -1));
        }
    }

    private static void promise18Beginning() {
        Leastlex x = Check.with("a", "ab", "abc", "abcdefgh", "b", "ba");
        check.same("18: nothing typed", 6, x.beginning(0));
        check.same("18: nothing typed, empty net", 0, x.beginning(1));
        check.same("18: a", 4, Check.typed(x, "a").beginning(0));
        check.same("18: ab", 3, Check.typed(x, "ab").beginning(0));
        check.same("18: abcd", 1, Check.typed(x, "abcd").beginning(0));
        check.same("18: abcdefgh", 1, Check.typed(x, "abcdefgh").beginning(0));
        check.same("18: 9 letters", 0, Check.typed(x, "abcdefgha").beginning(0));
        check.same("18: 10 letters", 0, Check.typed(x, "abcdefghab").beginning(0));
        check.same("18: b", 2, Check.typed(x, "b").beginning(0));
        check.same("18: c", 0, Check.typed(x, "c").beginning(0));
        for (String typed : new String[] {"?", "*", "a?", "?a", "a*b", "aaaaaaaaa*"}) {
            Check.typed(x, typed);
            check.refuses("18: " + typed, x, UnsupportedOperationException.class, () -> x.beginning(0));
            check.refuses("18: net first", x, IndexOutOfBoundsException.class, () -> x.beginning(-1));
        }
        for (int net : NO_NETS) {
            check.refuses("18: net " + net, x, IndexOutOfBoundsException.class, () -> x.beginning(net));
        }
    }
}
