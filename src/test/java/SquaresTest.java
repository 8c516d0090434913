import java.util.NoSuchElementException;

/** Promises 33 and 34: squares, squareAt. */
public final class SquaresTest {
    private static final Check check = new Check();
    private static final int[] NO_NETS = {-1, 4, Integer.MIN_VALUE, Integer.MAX_VALUE};
    // All of a, b, c with each other make 81 squares, d and e 16 more, and no word joins these letters with those.
    private static final String[] NINE_AND_FOUR =
            {"aa", "ab", "ac", "ba", "bb", "bc", "ca", "cb", "cc", "dd", "de", "ed", "ee"};
    private static final int[] NO_ROWS = {1, 5, 0, -1, Integer.MIN_VALUE, Integer.MAX_VALUE};

    public static void main(String[] args) {
        promise33Squares();
        promise34SquareAt();
        check.end();
    }

    private static String square(Leastlex x, int rows, int index) {
        StringBuilder square = new StringBuilder();
        for (int row = 0; row < rows; row++) {
            square.append(row == 0 ? "" : " ").append(Check.word(x, 0, x.squareAt(0, rows, index, row)));
        }
        return square.toString();
    }

    private static void promise33Squares() {
        Leastlex x = Check.with("a", "aa", "ab", "ba", "bab", "abab");
        check.same("33: of 2", 7, x.squares(0, 2));
        check.same("33: of 3", 0, x.squares(0, 3));
        check.same("33: empty net", 0, x.squares(1, 2));
        check.same("33: one word in all rows", 1, Check.with("aaa").squares(0, 3));
        check.same("33: of 4", 1, Check.with("aaaa", "a", "aaa").squares(0, 4));
        check.same("33: of 4", 2, Check.with("abab", "baba").squares(0, 4));
        check.same("33: longer words do not help", 0, Check.with("ab", "bab", "bb").squares(0, 3));
        check.same("33: nor shorter ones", 0, Check.with("ab", "b", "bab").squares(0, 2));
        check.same("33: rows and columns may differ", 4, Check.with("ab", "cd", "ac", "bd").squares(0, 2));
        Leastlex many = Check.with(NINE_AND_FOUR);
        check.same("33: 97", 97, many.squares(0, 2));
        check.same("33: 98", 98, Check.adding(many, 0, "ff").squares(0, 2));
        check.same("33: 99", 99, Check.adding(many, 0, "gg").squares(0, 2));
        check.same("33: 99 of 100", 99, Check.adding(many, 0, "hh").squares(0, 2));
        for (int rows : NO_ROWS) {
            check.refuses("33: rows " + rows, x, IllegalArgumentException.class, () -> x.squares(0, rows));
            check.refuses("33: net first", x, IndexOutOfBoundsException.class, () -> x.squares(4, rows));
        }
        for (int net : NO_NETS) {
            check.refuses("33: net " + net, x, IndexOutOfBoundsException.class, () -> x.squares(net, 2));
        }
        check.same("33: nothing gets typed", 0, x.wipe());
    }

    private static void promise34SquareAt() {
        Leastlex x = Check.with("a", "aa", "ab", "ba", "bab");
        String[] due = {"aa aa", "aa ab", "aa ba", "ab aa", "ab ba", "ba aa", "ba ab"};
        for (int index = 0; index < due.length; index++) {
            check.same("34: square " + index, due[index], square(x, 2, index));
        }
        Leastlex differ = Check.with("ab", "cd", "ac", "bd");
        check.same("34: rows, not columns", "ab cd", square(differ, 2, 1));
        check.same("34: rows, not columns", "ac bd", square(differ, 2, 2));
        Leastlex four = Check.with("abab", "baba", "cccc");
        check.same("34: of 4", "abab baba abab baba", square(four, 4, 0));
        check.same("34: of 4", "baba abab baba abab", square(four, 4, 1));
        check.same("34: of 4", "cccc cccc cccc cccc", square(four, 4, 2));
        for (int index : new int[] {7, -1, 99, Integer.MIN_VALUE, Integer.MAX_VALUE}) {
            check.refuses("34: index " + index, x, NoSuchElementException.class, () -> x.squareAt(0, 2, index, 0));
        }
        for (int row : new int[] {2, -1, Integer.MIN_VALUE, Integer.MAX_VALUE}) {
            check.refuses("34: row " + row, x, NoSuchElementException.class, () -> x.squareAt(0, 2, 0, row));
        }
        check.refuses("34: row 4 of 4", four, NoSuchElementException.class, () -> four.squareAt(0, 4, 0, 4));
        check.refuses("34: empty net", x, NoSuchElementException.class, () -> x.squareAt(1, 2, 0, 0));
        for (int rows : NO_ROWS) {
            check.refuses("34: rows " + rows, x, IllegalArgumentException.class, () -> x.squareAt(0, rows, 0, 0));
            check.refuses("34: rows first", x, IllegalArgumentException.class, () -> x.squareAt(0, rows, -1, -1));
            check.refuses("34: net first", x, IndexOutOfBoundsException.class, () -> x.squareAt(-1, rows, 0, 0));
        }
        for (int net : NO_NETS) {
            check.refuses("34: net " + net, x, IndexOutOfBoundsException.class, () -> x.squareAt(net, 2, 0, 0));
        }
        onlyTheFirst99();
    }

    private static void onlyTheFirst99() {
        Leastlex many = Check.adding(Check.with(NINE_AND_FOUR), 0, "ff", "gg", "hh");
        check.same("34: the 81st", "cc cc", square(many, 2, 80));
        check.same("34: the 82nd", "dd dd", square(many, 2, 81));
        check.same("34: the 99th", "gg gg", square(many, 2, 98));
        check.refuses("34: no 100th", many, NoSuchElementException.class, () -> many.squareAt(0, 2, 99, 0));
        check.refuses("34: no 101st", many, NoSuchElementException.class, () -> many.squareAt(0, 2, 100, 1));
        Check.typed(many, "aa").drop(0);
        check.same("34: others move up", "hh hh", square(many, 2, many.squares(0, 2) - 1));
    }
}
