/** Promises 12 to 15: merge, entry, conflicts, see. Their boundary cases stand in MergeEdgesTest. */
public final class MergeTest {
    private static final Checks checks = new Checks();

    public static void main(String[] args) {
        checks.run(MergeTest::mergesOfSmallRows);
        checks.run(MergeTest::entryProperties);
        checks.end();
    }

    private static void dueMerge(int[] base, int[] left, int[] right, int conflicts, String entries) {
        RowDiffer x = Checks.withRows(base, left, right);
        String name = Checks.rowText(base) + " to " + Checks.rowText(left) + " and " + Checks.rowText(right);
        int count = entries.isEmpty() ? 0 : entries.split(" ").length;
        checks.promise(12, "Makes the merge of rows: how many entries it has");
        checks.due("entries of " + name, x.merge(0, 1, 2), count);
        checks.promise(13, "Of entry k of the merge that was made last");
        checks.due("merge of " + name, Checks.mergeText(x), entries);
        checks.promise(14, "How many conflicts that merge has");
        checks.due("conflicts of " + name, x.conflicts(), conflicts);
        checks.promise(15, "Row into becomes the numbers of the entries that are seen with a set of sides");
        checks.due("base seen of " + name, x.see(0, 3) + ":" + Checks.rowText(x, 3), textWithCount(base));
        checks.due("left seen of " + name, x.see(1, 3) + ":" + Checks.rowText(x, 3), textWithCount(left));
        checks.due("right seen of " + name, x.see(2, 3) + ":" + Checks.rowText(x, 3), textWithCount(right));
    }

    private static String textWithCount(int[] numbers) {
        return numbers.length + ":" + Checks.rowText(numbers);
    }

    private static void mergesOfSmallRows() {
        dueMerge(Checks.row(), Checks.row(), Checks.row(), 0, "");
        dueMerge(Checks.row(1, 2), Checks.row(1, 2), Checks.row(1, 2), 0, "1+0-0@0 2+0-0@1");
        // Erased by each of the four sets of sides.
        dueMerge(Checks.row(1, 2, 3, 4), Checks.row(1, 3), Checks.row(1, 2), 0, "1+0-0@0 2+0-1@1 3+0-2@2 4+0-3@3");
        // Inserted at the beginning, between and at the end, by one side.
        dueMerge(Checks.row(1, 2), Checks.row(8, 1, 2), Checks.row(1, 2, 9), 0, "8+1-0@-1 1+0-0@0 2+0-0@1 9+2-0@-1");
        // The same beginning once, then left's rest, then right's.
        dueMerge(Checks.row(1, 2), Checks.row(1, 7, 8, 2), Checks.row(1, 7, 9, 2), 1,
                "1+0-0@0 7+3-0@-1 8+1-0@-1 9+2-0@-1 2+0-0@1");
        // A rest on one side only is no conflict.
        dueMerge(Checks.row(1), Checks.row(7, 1), Checks.row(7, 8, 1), 0, "7+3-0@-1 8+2-0@-1 1+0-0@0");
        dueMerge(Checks.row(1), Checks.row(7, 8, 1), Checks.row(7, 1), 0, "7+3-0@-1 8+1-0@-1 1+0-0@0");
        // Only the beginnings are shared, not the ends.
        dueMerge(Checks.row(), Checks.row(5, 6), Checks.row(4, 6), 1, "5+1-0@-1 6+1-0@-1 4+2-0@-1 6+2-0@-1");
        // What replaces a number is inserted behind it, so the two meet at the next place.
        dueMerge(Checks.row(1, 2), Checks.row(5, 2), Checks.row(6, 2), 1, "1+0-3@0 5+1-0@-1 6+2-0@-1 2+0-0@1");
        dueMerge(Checks.row(1, 2), Checks.row(5, 2), Checks.row(1), 0, "1+0-1@0 5+1-0@-1 2+0-2@1");
        dueMerge(Checks.row(1), Checks.row(5), Checks.row(6), 1, "1+0-3@0 5+1-0@-1 6+2-0@-1");
        // Conflicts at several places, the end among them.
        dueMerge(Checks.row(1, 2), Checks.row(3, 1, 4, 2, 5), Checks.row(6, 1, 4, 2, 7), 2,
                "3+1-0@-1 6+2-0@-1 1+0-0@0 4+3-0@-1 2+0-0@1 5+1-0@-1 7+2-0@-1");
        dueMerge(Checks.row(Integer.MIN_VALUE), Checks.row(), Checks.row(Integer.MIN_VALUE, Integer.MAX_VALUE), 0,
                "-2147483648+0-1@0 2147483647+2-0@-1");
    }

    private static void entryProperties() {
        RowDiffer x = Checks.withRows(Checks.row(10, 11), Checks.row(10, 12), Checks.row(10, 11, 13));
        checks.promise(13, "its number (what = 0), inserted (1), erased (2), its place in base, or -1 (3)");
        x.merge(0, 1, 2);
        checks.dueProperties("entry 0", what -> x.entry(0, what), 10, 0, 0, 0);
        checks.dueProperties("entry 1", what -> x.entry(1, what), 11, 0, 1, 1);
        checks.dueProperties("entry 2", what -> x.entry(2, what), 12, 1, 0, -1);
        checks.dueProperties("entry 3", what -> x.entry(3, what), 13, 2, 0, -1);
    }
}
