import java.util.NoSuchElementException;

/** Promises 5 to 10: add, drop, has, size, setCount, countOf. */
public final class WordsTest {
    private static final Check check = new Check();
    private static final int[] NO_NETS = {-1, 4, Integer.MIN_VALUE, Integer.MAX_VALUE};
    private static final String[] NO_WORDS = {"", "?", "*", "a?", "*a", "abcdefgha", "aaaaaaaaaa"};

    public static void main(String[] args) {
        promise5Add();
        promise6Drop();
        promise7Has();
        promise8Size();
        promise9SetCount();
        promise10CountOf();
        check.end();
    }

    private static void promise5Add() {
        Leastlex x = new Leastlex();
        check.same("5: add", 1, Check.typed(x, "b").add(0));
        check.same("5: add", 2, Check.typed(x, "abcdefgh").add(0));
        check.same("5: add", 3, Check.typed(x, "a").add(0));
        check.same("5: add", 4, Check.typed(x, "ba").add(0));
        check.same("5: other net", 1, x.add(3));
        check.same("5: in order", "a abcdefgh b ba", Check.words(x, 0));
        check.same("5: count", 1, x.countOf(0, 2));
        for (int net : NO_NETS) {
            check.refuses("5: net " + net, x, IndexOutOfBoundsException.class, () -> x.add(net));
        }
        check.refuses("5: has it", x, IllegalArgumentException.class, () -> x.add(0));
        for (String typed : NO_WORDS) {
            Check.typed(x, typed);
            check.refuses("5: add " + typed, x, UnsupportedOperationException.class, () -> x.add(0));
            check.refuses("5: no net, no word", x, IndexOutOfBoundsException.class, () -> x.add(4));
        }
        Leastlex full = Check.with(Check.threes(49));
        check.same("5: the 50th", 50, Check.typed(full, "hhh").add(0));
        check.refuses("5: full, has it", full, IllegalArgumentException.class, () -> full.add(0));
        Check.typed(full, "hhg");
        check.refuses("5: full", full, IllegalStateException.class, () -> full.add(0));
        check.same("5: another net", 1, full.add(1));
        Check.typed(full, "?");
        check.refuses("5: full, no word", full, UnsupportedOperationException.class, () -> full.add(0));
    }

    private static void promise6Drop() {
        Leastlex x = Check.with("a", "ab", "b", "ba");
        for (int net : NO_NETS) {
            check.refuses("6: net " + net, x, IndexOutOfBoundsException.class, () -> x.drop(net));
        }
        for (String typed : NO_WORDS) {
            Check.typed(x, typed);
            check.refuses("6: drop " + typed, x, UnsupportedOperationException.class, () -> x.drop(0));
        }
        Check.typed(x, "abc");
        check.refuses("6: does not have it", x, NoSuchElementException.class, () -> x.drop(0));
        Check.typed(x, "ab").setCount(0, 9);
        check.refuses("6: another net", x, NoSuchElementException.class, () -> x.drop(1));
        check.same("6: drop", 3, x.drop(0));
        check.same("6: the others stay", "a b ba", Check.words(x, 0));
        check.refuses("6: twice", x, NoSuchElementException.class, () -> x.drop(0));
        check.same("6: add again", 4, x.add(0));
        check.same("6: count is 1 again", 1, x.countOf(0, 1));
        Check.typed(x, "ba").setCount(0, 5);
        Check.typed(x, "a").drop(0);
        check.same("6: counts move along", 5, x.countOf(0, 2));
        Check.typed(x, "ba").drop(0);
        Check.typed(x, "ab").drop(0);
        check.same("6: the last one", 0, Check.typed(x, "b").drop(0));
        check.same("6: no states then", 0, x.states(0));
        Leastlex full = Check.with(Check.threes(50));
        check.same("6: of 50", 49, Check.typed(full, "aaa").drop(0));
        check.same("6: a place is free", 50, Check.typed(full, "h").add(0));
    }

    private static void promise7Has() {
        Leastlex x = Check.with("a", "abc", "h");
        for (int net : NO_NETS) {
            check.refuses("7: net " + net, x, IndexOutOfBoundsException.class, () -> x.has(net));
        }
        for (String typed : NO_WORDS) {
            check.same("7: has " + typed, false, Check.typed(x, typed).has(0));
        }
        check.same("7: has a", true, Check.typed(x, "a").has(0));
        check.same("7: other net", false, x.has(1));
        check.same("7: has ab", false, Check.typed(x, "ab").has(0));
        check.same("7: has abc", true, Check.typed(x, "abc").has(0));
        check.same("7: has abca", false, Check.typed(x, "abca").has(0));
        check.same("7: has h", true, Check.typed(x, "h").has(0));
        check.same("7: has hh", false, Check.typed(x, "hh").has(0));
    }

    private static void promise8Size() {
        Leastlex x = Check.adding(Check.with("a", "b"), 2, "c");
        check.same("8: size", 2, x.size(0));
        check.same("8: size", 0, x.size(1));
        check.same("8: size", 1, x.size(2));
        check.same("8: size", 0, x.size(3));
        check.same("8: size of a full one", 50, Check.with(Check.threes(50)).size(0));
        for (int net : NO_NETS) {
            check.refuses("8: net " + net, x, IndexOutOfBoundsException.class, () -> x.size(net));
        }
    }

    private static void promise9SetCount() {
        Leastlex x = Check.adding(Check.with("a", "b", "c"), 1, "b");
        Check.typed(x, "b");
        check.same("9: setCount", 1, x.setCount(0, 999));
        check.same("9: setCount", 999, x.setCount(0, 1));
        check.same("9: setCount", 1, x.setCount(0, 7));
        check.same("9: its own word alone", "1 7 1", x.countOf(0, 0) + " " + x.countOf(0, 1) + " " + x.countOf(0, 2));
        check.same("9: its own net alone", 1, x.countOf(1, 0));
        for (int count : new int[] {0, 1000, -1, Integer.MIN_VALUE, Integer.MAX_VALUE}) {
            check.refuses("9: count " + count, x, IllegalArgumentException.class, () -> x.setCount(0, count));
            check.refuses("9: no net", x, IndexOutOfBoundsException.class, () -> x.setCount(4, count));
        }
        for (int net : NO_NETS) {
            check.refuses("9: net " + net, x, IndexOutOfBoundsException.class, () -> x.setCount(net, 1));
        }
        for (String typed : NO_WORDS) {
            Check.typed(x, typed);
            check.refuses("9: typed " + typed, x, UnsupportedOperationException.class, () -> x.setCount(0, 1));
            check.refuses("9: count first", x, IllegalArgumentException.class, () -> x.setCount(0, 0));
        }
        Check.typed(x, "d");
        check.refuses("9: does not have it", x, NoSuchElementException.class, () -> x.setCount(0, 1));
        check.refuses("9: count first", x, IllegalArgumentException.class, () -> x.setCount(0, 1000));
    }

    private static void promise10CountOf() {
        Leastlex x = Check.with("b", "a");
        check.same("10: countOf", 1, x.countOf(0, 0));
        Check.typed(x, "a").setCount(0, 3);
        Check.typed(x, "b").setCount(0, 4);
        check.same("10: countOf", 3, x.countOf(0, 0));
        check.same("10: countOf", 4, x.countOf(0, 1));
        Check.typed(x, "aa").add(0);
        check.same("10: counts move along", 4, x.countOf(0, 2));
        for (int number : new int[] {3, -1, 50, Integer.MIN_VALUE, Integer.MAX_VALUE}) {
            check.refuses("10: number " + number, x, NoSuchElementException.class, () -> x.countOf(0, number));
            check.refuses("10: no net", x, IndexOutOfBoundsException.class, () -> x.countOf(-1, number));
        }
        check.refuses("10: empty net", x, NoSuchElementException.class, () -> x.countOf(1, 0));
        for (int net : NO_NETS) {
            check.refuses("10: net " + net, x, IndexOutOfBoundsException.class, () -> x.countOf(net, 0));
        }
    }
}
