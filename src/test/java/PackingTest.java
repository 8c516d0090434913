import java.util.NoSuchElementException;

/** Promises 39 and 40: packed, packedAt. */
public final class PackingTest {
    private static final Check check = new Check();
    private static final int[] NO_NETS = {-1, 4, Integer.MIN_VALUE, Integer.MAX_VALUE};

    public static void main(String[] args) {
        promise39Packed();
        promise40PackedAt();
        check.end();
    }

    private static void promise39Packed() {
        check.same("39: without words", 0, new Leastlex().packed(0));
        check.same("39: a", 1, Check.with("a").packed(0));
        check.same("39: h", 8, Check.with("h").packed(0));
        check.same("39: a to h", 8, Check.with("a", "b", "c", "d", "e", "f", "g", "h").packed(0));
        Leastlex x = Check.with("ab", "aba", "abab", "ac", "acab");
        check.same("39: of seven states", 9, x.packed(0));
        Check.typed(x, "acab").drop(0);
        // Starts: of a 1, of ab 4, of aba 5, as b of it would stand on c from 2 on, and on a from 3 on.
        check.same("39: after drop", 7, x.packed(0));
        for (int net : NO_NETS) {
            check.refuses("39: net " + net, x, IndexOutOfBoundsException.class, () -> x.packed(net));
        }
    }

    private static void promise40PackedAt() {
        check.same("40: h", "-------h", Check.row(Check.with("h"), 0));
        check.same("40: ac", "a-c", Check.row(Check.with("a", "c"), 0));
        // The first state stands at 0, the second one at 1, as 0 is the other one's start.
        check.same("40: no two starts alike", "aa", Check.row(Check.with("aa"), 0));
        check.same("40: though the place is free", "a-b", Check.row(Check.with("ab"), 0));
        // a goes on by a and b: no start before 3 leaves both free. c goes on by b: not from 1 to 3 either.
        check.same("40: all letters of a state are free", "a-cabb", Check.row(Check.with("aa", "ab", "cb"), 0));
        // b is at 1 from 0 on. Then a: 0 is a start already, at 1 is b.
        check.same("40: b, then a", "-ba", Check.row(Check.with("ba"), 0));
        // a goes on by c: from 1 on, where b is, so c is at 3. b goes on by a: at 2.
        check.same("40: states in the order of their letters", "abac", Check.row(Check.with("ac", "ba"), 0));
        // a and b go on alike: one state, from 1 on.
        check.same("40: each state once", "ab-c", Check.row(Check.with("ac", "bc"), 0));
        // Starts: of a 2, of b 3, of aa 1, of bb 4, of aac 5.
        check.same("40: states go by their distance from the first", "abacba-d", Check.row(Check.with("aaca", "bbd"), 0));
        Leastlex x = Check.with("ab", "aba", "abab", "ac", "acab");
        check.same("40: of seven states", 'a', x.packedAt(0, 0));
        check.same("40: none", '-', x.packedAt(0, 1));
        check.same("40: of seven states", 'b', x.packedAt(0, 2));
        for (int place : new int[] {9, -1, Integer.MIN_VALUE, Integer.MAX_VALUE}) {
            check.refuses("40: place " + place, x, NoSuchElementException.class, () -> x.packedAt(0, place));
        }
        check.refuses("40: empty net", x, NoSuchElementException.class, () -> x.packedAt(1, 0));
        for (int net : NO_NETS) {
            check.refuses("40: net " + net, x, IndexOutOfBoundsException.class, () -> x.packedAt(net, 0));
            check.refuses("40: net first", x, IndexOutOfBoundsException.class, () -> x.packedAt(net, -1));
        }
    }
}
