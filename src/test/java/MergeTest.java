/** Promises 12 to 15: merge, entry, conflicts, see. */
public final class MergeTest {
    private static final int[] NO_ROWS = {-1, 8, Integer.MIN_VALUE, Integer.MAX_VALUE};
    private static final Checks checks = new Checks();

    public static void main(String[] args) {
        mergesOfSmallRows();
        mergeOfOneRow();
        mergeCostLimit();
        mergeOfNoRow();
        mergeStaysWhenRowsChange();
        mergeLeavesScript();
        largestMerge();
        entryProperties();
        entryRefuses();
        conflictsAreCounted();
        seeSides();
        seeIntoItsRows();
        seeRefuses();
        seeRowLimit();
        checks.end();
    }

    private static void dueMerge(int[] base, int[] left, int[] right, int conflicts, String entries) {
        RowDiffer x = Checks.withRows(base, left, right);
        String name = Checks.rowText(base) + " to " + Checks.rowText(left) + " and " + Checks.rowText(right);
        int count = entries.isEmpty() ? 0 : entries.split(" ").length;
        checks.due("12: entries of " + name, x.merge(0, 1, 2), count);
        checks.due("12, 13: merge of " + name, Checks.mergeText(x, count), entries);
        checks.due("14: conflicts of " + name, x.conflicts(), conflicts);
        checks.due("15: base seen of " + name, x.see(0, 3) + ":" + Checks.rowText(x, 3), textWithCount(base));
        checks.due("15: left seen of " + name, x.see(1, 3) + ":" + Checks.rowText(x, 3), textWithCount(left));
        checks.due("15: right seen of " + name, x.see(2, 3) + ":" + Checks.rowText(x, 3), textWithCount(right));
    }

    private static String textWithCount(int[] numbers) {
        return numbers.length + ":" + Checks.rowText(numbers);
    }

    private static void mergesOfSmallRows() {
        dueMerge(Checks.row(), Checks.row(), Checks.row(), 0, "");
        dueMerge(Checks.row(1, 2), Checks.row(1, 2), Checks.row(1, 2), 0, "1+0-0@0 2+0-0@1");
        // Erased by each of the four sets of sides.
        dueMerge(Checks.row(1, 2, 3, 4), Checks.row(1, 3), Checks.row(1, 2), 0, "1+0-0@0 2+0-1@1 3+0-2@2 4+0-3@3");
        // Inserted at the beginning, between and at the end, by one side.
        dueMerge(Checks.row(1, 2), Checks.row(8, 1, 2), Checks.row(1, 2, 9), 0, "8+1-0@-1 1+0-0@0 2+0-0@1 9+2-0@-1");
        // The same beginning once, then left's rest, then right's.
        dueMerge(Checks.row(1, 2), Checks.row(1, 7, 8, 2), Checks.row(1, 7, 9, 2), 1,
                "1+0-0@0 7+3-0@-1 8+1-0@-1 9+2-0@-1 2+0-0@1");
        // A rest on one side only is no conflict.
        dueMerge(Checks.row(1), Checks.row(7, 1), Checks.row(7, 8, 1), 0, "7+3-0@-1 8+2-0@-1 1+0-0@0");
        dueMerge(Checks.row(1), Checks.row(7, 8, 1), Checks.row(7, 1), 0, "7+3-0@-1 8+1-0@-1 1+0-0@0");
        // Only the beginnings are shared, not the ends.
        dueMerge(Checks.row(), Checks.row(5, 6), Checks.row(4, 6), 1, "5+1-0@-1 6+1-0@-1 4+2-0@-1 6+2-0@-1");
        // What replaces a number is inserted behind it, so the two meet at the next place.
        dueMerge(Checks.row(1, 2), Checks.row(5, 2), Checks.row(6, 2), 1, "1+0-3@0 5+1-0@-1 6+2-0@-1 2+0-0@1");
        dueMerge(Checks.row(1, 2), Checks.row(5, 2), Checks.row(1), 0, "1+0-1@0 5+1-0@-1 2+0-2@1");
        dueMerge(Checks.row(1), Checks.row(5), Checks.row(6), 1, "1+0-3@0 5+1-0@-1 6+2-0@-1");
        // Conflicts at several places, the end among them.
        dueMerge(Checks.row(1, 2), Checks.row(3, 1, 4, 2, 5), Checks.row(6, 1, 4, 2, 7), 2,
                "3+1-0@-1 6+2-0@-1 1+0-0@0 4+3-0@-1 2+0-0@1 5+1-0@-1 7+2-0@-1");
        dueMerge(Checks.row(Integer.MIN_VALUE), Checks.row(), Checks.row(Integer.MIN_VALUE, Integer.MAX_VALUE), 0,
                "-2147483648+0-1@0 2147483647+2-0@-1");
    }

    private static void mergeOfOneRow() {
        RowDiffer x = Checks.withRows(Checks.row(3, 3), Checks.row(3));
        checks.due("12: thrice the same row", x.merge(0, 0, 0), 2);
        checks.due("13: its entries", Checks.mergeText(x, 2), "3+0-0@0 3+0-0@1");
        checks.due("12: both sides the same row", x.merge(1, 0, 0), 2);
        checks.due("13: its entries", Checks.mergeText(x, 2), "3+0-0@0 3+3-0@-1");
        checks.due("12: left is base", x.merge(0, 0, 1), 2);
        checks.due("13: its entries", Checks.mergeText(x, 2), "3+0-0@0 3+0-2@1");
    }

    private static void mergeCostLimit() {
        RowDiffer x = Checks.withRows(Checks.countUp(0, 101), Checks.row(), Checks.countUp(0, 100), Checks.row(0, 0));
        checks.dueThrow("12: left's cost 101", Checks.STATE, () -> x.merge(1, 0, 1));
        checks.dueThrow("12: right's cost 101", Checks.STATE, () -> x.merge(1, 1, 0));
        checks.dueThrow("12: both's cost 101", Checks.STATE, () -> x.merge(0, 1, 1));
        checks.due("14: no merge is made by it", x.conflicts(), -1);
        checks.dueThrow("15: no merge is made by it", Checks.STATE, () -> x.see(0, 4));
        checks.due("12: cost 100 twice", x.merge(1, 2, 2), 100);
        checks.due("12: cost 100 twice, erased", x.merge(2, 1, 1), 100);
        checks.due("12: a merge to keep", x.merge(1, 2, 3), 101);
        checks.due("14: its conflicts", x.conflicts(), 1);
        checks.dueThrow("12: right's cost 101 then", Checks.STATE, () -> x.merge(1, 2, 0));
        checks.dueThrow("12: left's cost 101 then", Checks.STATE, () -> x.merge(1, 0, 2));
        checks.due("14: the merge stays", x.conflicts(), 1);
        checks.due("13: its last entry stays", x.entry(100, 0) + " " + x.entry(100, 1), "0 2");
    }

    private static void mergeOfNoRow() {
        RowDiffer x = Checks.withRows(Checks.countUp(0, 101), Checks.row(), Checks.row(4));
        x.merge(1, 2, 2);
        for (int row : NO_ROWS) {
            checks.dueThrow("12: base " + row, Checks.INDEX, () -> x.merge(row, 1, 1));
            checks.dueThrow("12: left " + row, Checks.INDEX, () -> x.merge(1, row, 1));
            checks.dueThrow("12: right " + row, Checks.INDEX, () -> x.merge(1, 1, row));
            checks.dueThrow("12: left's cost 101 and right " + row, Checks.INDEX, () -> x.merge(1, 0, row));
        }
        checks.due("12: the merge stays", Checks.mergeText(x, 1), "4+3-0@-1");
        checks.due("12: last row", x.merge(7, 7, 7), 0);
    }

    private static void mergeStaysWhenRowsChange() {
        RowDiffer x = Checks.withRows(Checks.row(1, 2), Checks.row(1, 5), Checks.row(1, 2, 6));
        x.merge(0, 1, 2);
        Checks.fill(x, 0, 9, 9);
        Checks.fill(x, 1, 8);
        x.wipe(2);
        x.diff(0, 1);
        checks.due("13: entries behind changes", Checks.mergeText(x, 4), "1+0-0@0 2+0-1@1 5+1-0@-1 6+2-0@-1");
        checks.due("14: conflicts behind changes", x.conflicts(), 1);
        checks.due("15: see behind changes", x.see(2, 0) + ":" + Checks.rowText(x, 0), "3:1 2 6");
    }

    private static void mergeLeavesScript() {
        RowDiffer x = Checks.withRows(Checks.row(1), Checks.row(1, 2), Checks.row(3));
        x.diff(0, 1);
        x.merge(0, 2, 2);
        checks.due("12: the script stays", Checks.scriptText(x), "K0,0:1 I1,1:2");
        checks.due("12: and works", x.apply(0, 5, false), 2);
        x.diff(0, 2);
        checks.due("6: a diff leaves the merge", Checks.mergeText(x, 2), "1+0-3@0 3+3-0@-1");
    }

    /** 120 numbers of base, of which both sides put other ones in the places of the same fifty. */
    private static void largestMerge() {
        RowDiffer x = new RowDiffer();
        for (int k = 0; k < 120; k++) {
            x.add(0, k);
            x.add(1, k < 50 ? 1000 + k : k);
            x.add(2, k < 50 ? 2000 + k : k);
        }
        checks.due("12: the largest merge", x.merge(0, 1, 2), 220);
        checks.due("14: its conflict", x.conflicts(), 1);
        checks.due("13: its last entry", x.entry(219, 0) + " " + x.entry(219, 3), "119 119");
        checks.due("13: the last of left's", x.entry(99, 0) + " " + x.entry(99, 1), "1049 1");
        checks.due("13: the last of right's", x.entry(149, 0) + " " + x.entry(149, 1), "2049 2");
        checks.dueThrow("13: behind it", Checks.INDEX, () -> x.entry(220, 0));
        checks.due("15: left of it", x.see(1, 3), 120);
        checks.dueThrow("15: both of it are 170", Checks.STATE, () -> x.see(3, 3));
        checks.due("15: into stays", x.length(3) + " " + x.number(3, 0), "120 1000");
    }

    private static void entryProperties() {
        RowDiffer x = Checks.withRows(Checks.row(10, 11), Checks.row(10, 12), Checks.row(10, 11, 13));
        checks.due("12: count", x.merge(0, 1, 2), 4);
        int[][] due = {{10, 0, 0, 0}, {11, 0, 1, 1}, {12, 1, 0, -1}, {13, 2, 0, -1}};
        for (int k = 0; k < due.length; k++) {
            for (int what = 0; what < 4; what++) {
                checks.due("13: entry " + k + ", " + what, x.entry(k, what), due[k][what]);
            }
        }
    }

    private static void entryRefuses() {
        RowDiffer x = Checks.withRows(Checks.row(10, 11), Checks.row(10, 12), Checks.row(10, 11, 13));
        checks.dueThrow("13: no merge", Checks.INDEX, () -> x.entry(0, 0));
        checks.dueThrow("13: no merge, k = -1", Checks.INDEX, () -> x.entry(-1, 0));
        checks.dueThrow("13: no merge and no such what", Checks.INDEX, () -> x.entry(0, 4));
        x.merge(0, 1, 2);
        for (int k : Checks.row(-1, 4, Integer.MIN_VALUE, Integer.MAX_VALUE)) {
            checks.dueThrow("13: entry " + k, Checks.INDEX, () -> x.entry(k, 0));
            checks.dueThrow("13: entry and what, index first, " + k, Checks.INDEX, () -> x.entry(k, 4));
        }
        for (int what : Checks.row(-1, 4, Integer.MIN_VALUE, Integer.MAX_VALUE)) {
            checks.dueThrow("13: what " + what, Checks.ARGUMENT, () -> x.entry(3, what));
        }
        x.merge(6, 6, 6);
        checks.dueThrow("13: entry of an empty merge", Checks.INDEX, () -> x.entry(0, 0));
    }

    private static void conflictsAreCounted() {
        RowDiffer x = Checks.withRows(Checks.row(), Checks.row(1), Checks.row(2));
        checks.due("14: no merge", x.conflicts(), -1);
        x.diff(0, 1);
        checks.due("14: a diff makes no merge", x.conflicts(), -1);
        x.merge(0, 1, 2);
        checks.due("14: one", x.conflicts(), 1);
        x.merge(0, 1, 1);
        checks.due("14: the last merge counts", x.conflicts(), 0);
    }

    private static void seeSides() {
        RowDiffer x = Checks.withRows(Checks.row(1, 2, 3, 4), Checks.row(5, 6, 1, 3), Checks.row(5, 7, 1, 2),
                Checks.countUp(20, 9));
        checks.due("12: count", x.merge(0, 1, 2), 7);
        checks.due("15: nobody", x.see(0, 3) + ":" + Checks.rowText(x, 3), "4:1 2 3 4");
        checks.due("15: left", x.see(1, 3) + ":" + Checks.rowText(x, 3), "4:5 6 1 3");
        checks.due("15: right", x.see(2, 3) + ":" + Checks.rowText(x, 3), "4:5 7 1 2");
        checks.due("15: both", x.see(3, 3) + ":" + Checks.rowText(x, 3), "4:5 6 7 1");
        checks.due("15: into the last row", x.see(3, 7), 4);
        x.merge(4, 4, 4);
        checks.due("15: an empty merge", x.see(3, 3) + ":" + Checks.rowText(x, 3), "0:");
    }

    private static void seeIntoItsRows() {
        RowDiffer x = Checks.withRows(Checks.row(1), Checks.row(1, 2), Checks.row(3, 1));
        x.merge(0, 1, 2);
        checks.due("15: into base", x.see(3, 0) + ":" + Checks.rowText(x, 0), "3:3 1 2");
        checks.due("15: base seen then", x.see(0, 1) + ":" + Checks.rowText(x, 1), "1:1");
        checks.due("15: left seen then", x.see(1, 2) + ":" + Checks.rowText(x, 2), "2:1 2");
    }

    private static void seeRefuses() {
        RowDiffer x = Checks.withRows(Checks.row(1), Checks.row(1, 2));
        checks.dueThrow("15: no merge", Checks.STATE, () -> x.see(0, 0));
        checks.dueThrow("15: no merge, sides first", Checks.ARGUMENT, () -> x.see(4, 0));
        checks.dueThrow("15: no merge, row first", Checks.INDEX, () -> x.see(0, 8));
        checks.dueThrow("15: no merge and no sides, row first", Checks.INDEX, () -> x.see(-1, -1));
        x.diff(0, 1);
        checks.dueThrow("15: a script is no merge", Checks.STATE, () -> x.see(3, 0));
        x.merge(0, 1, 1);
        for (int sides : Checks.row(-1, 4, 5, Integer.MIN_VALUE, Integer.MAX_VALUE)) {
            checks.dueThrow("15: sides " + sides, Checks.ARGUMENT, () -> x.see(sides, 0));
            checks.dueThrow("15: sides and row, row first, " + sides, Checks.INDEX, () -> x.see(sides, 8));
        }
        for (int row : NO_ROWS) {
            checks.dueThrow("15: into " + row, Checks.INDEX, () -> x.see(0, row));
        }
        checks.due("15: rows stay", Checks.rowText(x, 0) + "/" + Checks.rowText(x, 1), "1/1 2");
    }

    private static void seeRowLimit() {
        RowDiffer x = Checks.withRows(Checks.row(), Checks.countUp(100, 60), Checks.countUp(200, 60),
                Checks.countUp(200, 61), Checks.row(9));
        checks.due("12: 120 entries", x.merge(0, 1, 2), 120);
        checks.due("15: 120 numbers", x.see(3, 5), 120);
        checks.due("15: the last of them", x.number(5, 119), 259);
        checks.due("12: 121 entries", x.merge(0, 1, 3), 121);
        checks.dueThrow("15: 121 numbers", Checks.STATE, () -> x.see(3, 4));
        checks.due("15: into stays", Checks.rowText(x, 4), "9");
        checks.dueThrow("15: 121 numbers, sides first", Checks.ARGUMENT, () -> x.see(7, 4));
        checks.dueThrow("15: 121 numbers, row first", Checks.INDEX, () -> x.see(3, 8));
        checks.due("15: the merge stays", x.see(2, 4), 61);
    }
}
