/** Promises 35 to 38: keep, lay, added, dropped. */
public final class VersionsTest {
    private static final Check check = new Check();
    private static final int[] NO_NETS = {-1, 4, Integer.MIN_VALUE, Integer.MAX_VALUE};

    public static void main(String[] args) {
        promise35Keep();
        promise36Lay();
        promises37And38AddedAndDropped();
        check.end();
    }

    private static void promise35Keep() {
        Leastlex x = Check.with("a", "b");
        for (int net : NO_NETS) {
            check.refuses("35: net " + net, x, IndexOutOfBoundsException.class, () -> x.keep(net));
        }
        for (int version = 0; version < 8; version++) {
            check.same("35: keep", version, x.keep(version % 4));
        }
        check.refuses("35: a 9th", x, IllegalStateException.class, () -> x.keep(0));
        check.refuses("35: net first", x, IndexOutOfBoundsException.class, () -> x.keep(4));
        check.refuses("36: version 8 of 8", x, IndexOutOfBoundsException.class, () -> x.lay(8, 0));
        check.refuses("37: version 8 of 8", x, IndexOutOfBoundsException.class, () -> x.added(8, 0));
        check.refuses("38: version 8 of 8", x, IndexOutOfBoundsException.class, () -> x.dropped(8, 0));
        check.same("35: the net keeps its words", "a b", Check.words(x, 0));
        Check.typed(x, "c").add(0);
        Check.typed(x, "a").drop(0);
        x.lay(4, 1);
        check.same("35: the version has the words of its time", "a b", Check.words(x, 1));
        check.same("35: of an empty net too", 2, x.lay(5, 1));
        check.same("35: of an empty net too", 0, x.size(1));
    }

    private static void promise36Lay() {
        Leastlex x = Check.adding(Check.with("a", "b", "bab"), 1, "h");
        Check.typed(x, "b").setCount(0, 77);
        check.refuses("36: none is kept", x, IndexOutOfBoundsException.class, () -> x.lay(0, 0));
        x.keep(0);
        check.same("36: lay", 1, x.lay(0, 1));
        check.same("36: in place of its words", "a b bab", Check.words(x, 1));
        check.same("36: with counts", "1 77 1", x.countOf(1, 0) + " " + x.countOf(1, 1) + " " + x.countOf(1, 2));
        check.same("36: states come along", x.states(0), x.states(1));
        Check.typed(x, "b").setCount(1, 5);
        Check.typed(x, "a").drop(1);
        check.same("36: the first net stays", "a b bab 77", Check.words(x, 0) + " " + x.countOf(0, 1));
        check.same("36: lay again", 2, x.lay(0, 1));
        check.same("36: the version stays", "a b bab 77", Check.words(x, 1) + " " + x.countOf(1, 1));
        check.same("36: lay back", 3, x.lay(0, 0));
        check.same("36: into an empty net", 0, x.lay(0, 3));
        for (int version : new int[] {1, 8, -1, Integer.MIN_VALUE, Integer.MAX_VALUE}) {
            check.refuses("36: version " + version, x, IndexOutOfBoundsException.class, () -> x.lay(version, 0));
        }
        for (int net : NO_NETS) {
            check.refuses("36: net " + net, x, IndexOutOfBoundsException.class, () -> x.lay(0, net));
        }
        Leastlex full = Check.with(Check.threes(50));
        full.keep(0);
        full.keep(1);
        check.same("36: an empty version into a full net", 50, full.lay(1, 0));
        check.same("36: a full version", 0, full.lay(0, 2));
        check.same("36: has 50", 50, full.size(2));
        check.same("36: sound", true, full.isSound());
    }

    private static void promises37And38AddedAndDropped() {
        Leastlex x = Check.adding(Check.with("a", "ab", "b"), 1, "h", "b");
        check.refuses("37: none is kept", x, IndexOutOfBoundsException.class, () -> x.added(0, 0));
        check.refuses("38: none is kept", x, IndexOutOfBoundsException.class, () -> x.dropped(0, 0));
        x.keep(0);
        check.same("37: the same", 0, x.added(0, 0));
        check.same("38: the same", 0, x.dropped(0, 0));
        check.same("37: another net", 1, x.added(0, 1));
        check.same("38: another net", 2, x.dropped(0, 1));
        check.same("37: empty net", 0, x.added(0, 2));
        check.same("38: empty net", 3, x.dropped(0, 2));
        Check.typed(x, "a").setCount(0, 9);
        check.same("37: counts are none of it", 0, x.added(0, 0));
        check.same("38: counts are none of it", 0, x.dropped(0, 0));
        Check.typed(x, "a").drop(0);
        Check.typed(x, "c").add(0);
        Check.typed(x, "d").add(0);
        check.same("37: after changes", 2, x.added(0, 0));
        check.same("38: after changes", 1, x.dropped(0, 0));
        x.keep(2);
        check.same("37: empty version", 4, x.added(1, 0));
        check.same("38: empty version", 0, x.dropped(1, 0));
        for (int version : new int[] {2, 8, -1, Integer.MIN_VALUE, Integer.MAX_VALUE}) {
            check.refuses("37: version " + version, x, IndexOutOfBoundsException.class, () -> x.added(version, 0));
            check.refuses("38: version " + version, x, IndexOutOfBoundsException.class, () -> x.dropped(version, 0));
        }
        for (int net : NO_NETS) {
            check.refuses("37: net " + net, x, IndexOutOfBoundsException.class, () -> x.added(0, net));
            check.refuses("38: net " + net, x, IndexOutOfBoundsException.class, () -> x.dropped(0, net));
        }
    }
}
