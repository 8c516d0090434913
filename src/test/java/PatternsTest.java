import java.util.NoSuchElementException;

/** Promises 24 to 32: matches, matchAt, inBag, anagrams, addRule, readings, readingWord, readingRule, joins. */
public final class PatternsTest {
    private static final Check check = new Check();
    private static final int[] NO_NETS = {-1, 4, Integer.MIN_VALUE, Integer.MAX_VALUE};
    private static final String[] NO_WORDS = {"", "?", "*", "a?", "*a", "abcdefgha", "aaaaaaaaaa"};

    public static void main(String[] args) {
        promise24Matches();
        promise25MatchAt();
        promise26InBag();
        promise27Anagrams();
        promise28AddRule();
        promise29Readings();
        promises30And31ReadingWordAndRule();
        promise32Joins();
        check.end();
    }

    private static void promise24Matches() {
        Leastlex x = Check.with("a", "ab", "abc", "abcdefgh", "b", "ba", "bab");
        String[] patterns = {"", "*", "?", "??", "???", "a*", "*a", "*a*", "a?", "?a?", "*?", "**", "*??*", "a**",
            "ab", "abcd", "????????", "?????????", "????????*", "*????????*", "*bc*", "a*h", "a*b*h", "abcdefgh**",
            "*b", "b*b", "bb*", "*abcdefgh", "abcdefghab", "*ba*"};
        int[] due = {0, 7, 2, 2, 2, 4, 2, 6, 1, 1, 7, 7, 5, 4,
            1, 0, 1, 0, 1, 1, 2, 1, 1, 1,
            3, 1, 0, 1, 0, 2};
        for (int i = 0; i < patterns.length; i++) {
            check.same("24: " + patterns[i], due[i], Check.typed(x, patterns[i]).matches(0));
            check.same("24: empty net, " + patterns[i], 0, x.matches(1));
        }
        for (int net : NO_NETS) {
            check.refuses("24: net " + net, x, IndexOutOfBoundsException.class, () -> x.matches(net));
        }
    }

    private static void promise25MatchAt() {
        Leastlex x = Check.with("a", "ab", "abc", "b", "ba");
        Check.typed(x, "*b*");
        check.same("25: matchAt", 1, x.matchAt(0, 0));
        check.same("25: matchAt", 2, x.matchAt(0, 1));
        check.same("25: matchAt", 3, x.matchAt(0, 2));
        check.same("25: matchAt", 4, x.matchAt(0, 3));
        for (int index : new int[] {4, -1, Integer.MIN_VALUE, Integer.MAX_VALUE}) {
            check.refuses("25: index " + index, x, NoSuchElementException.class, () -> x.matchAt(0, index));
        }
        check.refuses("25: empty net", x, NoSuchElementException.class, () -> x.matchAt(1, 0));
        for (int net : NO_NETS) {
            check.refuses("25: net " + net, x, IndexOutOfBoundsException.class, () -> x.matchAt(net, 99));
        }
        check.same("25: a word itself", 4, Check.typed(x, "ba").matchAt(0, 0));
        x.wipe();
        check.refuses("25: nothing typed", x, NoSuchElementException.class, () -> x.matchAt(0, 0));
    }

    private static void promise26InBag() {
        Leastlex x = Check.with("a", "aa", "aab", "ab", "b", "ba", "bb", "c", "abcdefgh");
        check.same("26: in a", 1, Check.typed(x, "a").inBag(0));
        check.same("26: in ab", 4, Check.typed(x, "ab").inBag(0));
        check.same("26: in ba", 4, Check.typed(x, "ba").inBag(0));
        check.same("26: in aba", 6, Check.typed(x, "aba").inBag(0));
        check.same("26: in d", 0, Check.typed(x, "d").inBag(0));
        check.same("26: in hgfedcba", 6, Check.typed(x, "hgfedcba").inBag(0));
        check.same("26: in aaaaaaaa", 2, Check.typed(x, "aaaaaaaa").inBag(0));
        check.same("26: empty net", 0, x.inBag(1));
        check.same("26: h in h", 1, Check.typed(Check.with("h", "hh", "ah"), "h").inBag(0));
        needsWord("26", x, () -> x.inBag(0), net -> x.inBag(net));
    }

    private static void promise27Anagrams() {
        Leastlex x = Check.with("ab", "ba", "aab", "aba", "abb", "abcdefgh", "hgfedcba");
        check.same("27: ab", 2, Check.typed(x, "ab").anagrams(0));
        check.same("27: baa", 2, Check.typed(x, "baa").anagrams(0));
        check.same("27: bab", 1, Check.typed(x, "bab").anagrams(0));
        check.same("27: a", 0, Check.typed(x, "a").anagrams(0));
        check.same("27: acegbdfh", 2, Check.typed(x, "acegbdfh").anagrams(0));
        check.same("27: empty net", 0, x.anagrams(1));
        check.same("27: h", 1, Check.typed(Check.with("h", "hh", "ah"), "h").anagrams(0));
        check.same("27: hha", 1, Check.typed(Check.with("ahh", "ah", "aah"), "hha").anagrams(0));
        needsWord("27", x, () -> x.anagrams(0), net -> x.anagrams(net));
    }

    interface OfNet {
        Object run(int net);
    }

    private static void needsWord(String promise, Leastlex x, Check.Call call, OfNet ofNet) {
        for (String typed : NO_WORDS) {
            Check.typed(x, typed);
            check.refuses(promise + ": typed " + typed, x, UnsupportedOperationException.class, call);
            check.refuses(promise + ": net first", x, IndexOutOfBoundsException.class, () -> ofNet.run(4));
        }
        Check.typed(x, "a");
        for (int net : NO_NETS) {
            check.refuses(promise + ": net " + net, x, IndexOutOfBoundsException.class, () -> ofNet.run(net));
        }
    }

    private static void promise28AddRule() {
        Leastlex x = new Leastlex();
        check.same("28: nothing put", 0, x.addRule(0));
        check.same("28: 4 letters put", 1, Check.typed(x, "hhhh").addRule(4));
        check.same("28: the same again", 2, x.addRule(4));
        for (int off : new int[] {-1, 5, Integer.MIN_VALUE, Integer.MAX_VALUE}) {
            check.refuses("28: off " + off, x, IllegalArgumentException.class, () -> x.addRule(off));
        }
        for (String typed : new String[] {"aaaaa", "aaaaaaaaaa", "?", "*", "aaa?", "*aaa", "?????"}) {
            Check.typed(x, typed);
            check.refuses("28: typed " + typed, x, UnsupportedOperationException.class, () -> x.addRule(0));
            check.refuses("28: off first", x, IllegalArgumentException.class, () -> x.addRule(5));
        }
        Check.typed(x, "a");
        for (int rule = 3; rule < 8; rule++) {
            check.same("28: none was added by wrong ones", rule, x.addRule(1));
        }
        check.refuses("28: a 9th", x, IllegalStateException.class, () -> x.addRule(1));
        check.refuses("28: off first", x, IllegalArgumentException.class, () -> x.addRule(5));
        Check.typed(x, "?");
        check.refuses("28: typed first", x, UnsupportedOperationException.class, () -> x.addRule(1));
    }

    private static Leastlex ruled() {
        Leastlex x = Check.with("a", "ab", "abc", "abcdef", "abcdefgh", "b");
        Check.typed(x, "").addRule(0);
        Check.typed(x, "b").addRule(0);
        Check.typed(x, "").addRule(1);
        Check.typed(x, "bc").addRule(1);
        Check.typed(x, "efgh").addRule(2);
        Check.typed(x, "abcd").addRule(4);
        Check.typed(x, "ab").addRule(0);
        Check.typed(x, "").addRule(4);
        x.wipe();
        return x;
    }

    private static String readings(Leastlex x, String typed) {
        Check.typed(x, typed);
        StringBuilder readings = new StringBuilder();
        for (int index = 0; index < x.readings(0); index++) {
            readings.append(index == 0 ? "" : " ").append(Check.word(x, 0, x.readingWord(0, index)));
            readings.append('+').append(x.readingRule(0, index));
        }
        return readings.toString();
    }

    private static void promise29Readings() {
        check.same("29: without rules", 0, Check.typed(Check.with("a"), "a").readings(0));
        Leastlex x = ruled();
        check.same("29: ab", 4, Check.typed(x, "ab").readings(0));
        check.same("29: abc", 2, Check.typed(x, "abc").readings(0));
        check.same("29: empty net", 0, x.readings(1));
        needsWord("29", x, () -> x.readings(0), net -> x.readings(net));
        Leastlex bare = Check.with("abcd");
        Check.typed(bare, "h").addRule(4);
        check.same("29: no more letters than it takes off", 0, bare.readings(0));
        Check.typed(bare, "abcda").add(0);
        check.same("29: one more", 1, Check.typed(bare, "ah").readings(0));
        Check.typed(bare, "aaaa").addRule(0);
        Check.typed(bare, "abcdabcd").add(0);
        check.same("29: 12 letters are no typed word", 0, Check.typed(bare, "abcdabcd").readings(0));
        check.same("29: 8 letters are", 1, Check.typed(bare, "abcdaaaa").readings(0));
    }

    private static void promises30And31ReadingWordAndRule() {
        Leastlex x = ruled();
        check.same("30, 31: ab", "a+1 ab+0 abc+2 abcdef+7", readings(x, "ab"));
        check.same("30, 31: a", "a+0 ab+2", readings(x, "a"));
        check.same("30, 31: abc", "ab+3 abc+0", readings(x, "abc"));
        check.same("30, 31: abcdefgh", "abcdef+4 abcdefgh+0", readings(x, "abcdefgh"));
        check.same("30, 31: ababcd", "abcdef+5", readings(x, "ababcd"));
        check.same("30, 31: abcd", "abcdefgh+7", readings(x, "abcd"));
        check.same("30, 31: bab", "b+6", readings(x, "bab"));
        Check.typed(x, "ab");
        for (int index : new int[] {4, -1, Integer.MIN_VALUE, Integer.MAX_VALUE}) {
            check.refuses("30: index " + index, x, NoSuchElementException.class, () -> x.readingWord(0, index));
            check.refuses("31: index " + index, x, NoSuchElementException.class, () -> x.readingRule(0, index));
        }
        for (int index : new int[] {0, -1}) {
            Leastlex y = ruled();
            needsWord("30: index " + index, y, () -> y.readingWord(0, index), net -> y.readingWord(net, index));
            Leastlex z = ruled();
            needsWord("31: index " + index, z, () -> z.readingRule(0, index), net -> z.readingRule(net, index));
        }
        Leastlex twice = Check.with("a", "aa");
        twice.addRule(0);
        twice.addRule(0);
        check.same("30, 31: of like words by rules", "a+0 a+1", readings(twice, "a"));
    }

    private static void promise32Joins() {
        Leastlex x = Check.with("a", "ab", "b", "ba");
        check.same("32: a", 1, Check.typed(x, "a").joins(0));
        check.same("32: ab", 2, Check.typed(x, "ab").joins(0));
        check.same("32: bab", 3, Check.typed(x, "bab").joins(0));
        check.same("32: abab", 5, Check.typed(x, "abab").joins(0));
        check.same("32: c", 0, Check.typed(x, "c").joins(0));
        check.same("32: abca", 0, Check.typed(x, "abca").joins(0));
        check.same("32: empty net", 0, Check.typed(x, "a").joins(1));
        Check.adding(x, 1, "a", "aa", "aaa", "aaaa", "aaaaa", "aaaaaa", "aaaaaaa", "aaaaaaaa");
        check.same("32: most", 128, Check.typed(x, "aaaaaaaa").joins(1));
        check.same("32: of one letter", 1, x.joins(0));
        needsWord("32", x, () -> x.joins(0), net -> x.joins(net));
    }
}
