/** The boundary cases of promises 12 to 15, a method for each sentence that names one. */
public final class MergeEdgesTest {
    private static final Checks checks = new Checks();

    public static void main(String[] args) {
        checks.run(MergeEdgesTest::mergeOfEmptyRows);
        checks.run(MergeEdgesTest::mergeAtTheBeginningAndBehindTheEnd);
        checks.run(MergeEdgesTest::mergeOfSameBeginnings);
        checks.run(MergeEdgesTest::mergeBehindLargerMerge);
        checks.run(MergeEdgesTest::mergeOfNumbersThatAreNearlyTheSame);
        checks.run(MergeEdgesTest::mergeOfErasedNumbers);
        checks.run(MergeEdgesTest::mergeOfOneRow);
        checks.run(MergeEdgesTest::mergeOfFirstAndLastRow);
        checks.run(MergeEdgesTest::mergeOfNoSuchRow);
        checks.run(MergeEdgesTest::mergeIndexComesFirst);
        checks.run(MergeEdgesTest::mergeAtTheHighestCost);
        checks.run(MergeEdgesTest::mergeAboveTheHighestCost);
        checks.run(MergeEdgesTest::refusedMergeLeavesNoMerge);
        checks.run(MergeEdgesTest::refusedMergeLeavesTheMerge);
        checks.run(MergeEdgesTest::mergeLeavesTheScript);
        checks.run(MergeEdgesTest::mergeLeavesNoScript);
        checks.run(MergeEdgesTest::largestMerge);
        checks.run(MergeEdgesTest::mergeUpToTheLastCall);
        checks.run(MergeEdgesTest::entryOfNoMerge);
        checks.run(MergeEdgesTest::entryOutsideTheMerge);
        checks.run(MergeEdgesTest::entryOfSmallerMerge);
        checks.run(MergeEdgesTest::entryPlaces);
        checks.run(MergeEdgesTest::entryOfNoSuchProperty);
        checks.run(MergeEdgesTest::entryIndexComesFirst);
        checks.run(MergeEdgesTest::entriesStayWhenRowsChange);
        checks.run(MergeEdgesTest::conflictsWithoutMerge);
        checks.run(MergeEdgesTest::conflictsOfMergeWithoutOne);
        checks.run(MergeEdgesTest::conflictAtTheBeginningAndAtTheEnd);
        checks.run(MergeEdgesTest::mostConflicts);
        checks.run(MergeEdgesTest::conflictsOfTheLastMerge);
        checks.run(MergeEdgesTest::seeWithEachSet);
        checks.run(MergeEdgesTest::seeOfNothing);
        checks.run(MergeEdgesTest::seeIntoLongerRow);
        checks.run(MergeEdgesTest::seeIntoRowOfTheMerge);
        checks.run(MergeEdgesTest::seeUpToFullRow);
        checks.run(MergeEdgesTest::seeMoreThanRowHolds);
        checks.run(MergeEdgesTest::seeWithNoSuchSet);
        checks.run(MergeEdgesTest::seeIntoNoSuchRow);
        checks.run(MergeEdgesTest::seeWithoutMerge);
        checks.run(MergeEdgesTest::seeFirstListedComesFirst);
        checks.end();
    }

    private static void dueMerge(int[] base, int[] left, int[] right, String entries) {
        RowDiffer x = Checks.withRows(base, left, right);
        String name = Checks.rowText(base) + " to " + Checks.rowText(left) + " and " + Checks.rowText(right);
        int count = entries.isEmpty() ? 0 : entries.split(" ").length;
        checks.due("entries of " + name, x.merge(0, 1, 2), count);
        checks.due("merge of " + name, Checks.mergeText(x), entries);
    }

    private static void mergeOfEmptyRows() {
        checks.promise(12, "For each place p of base, from 0 on, and at last behind the end");
        dueMerge(Checks.row(), Checks.row(), Checks.row(), "");
        dueMerge(Checks.row(1), Checks.row(), Checks.row(), "1+0-3@0");
        dueMerge(Checks.row(), Checks.row(1), Checks.row(), "1+1-0@-1");
        dueMerge(Checks.row(), Checks.row(), Checks.row(1), "1+2-0@-1");
        dueMerge(Checks.row(), Checks.row(1), Checks.row(1), "1+3-0@-1");
        dueMerge(Checks.row(), Checks.row(1), Checks.row(2), "1+1-0@-1 2+2-0@-1");
    }

    private static void mergeAtTheBeginningAndBehindTheEnd() {
        checks.promise(12, "first what the scripts .. INSERT when i is p");
        dueMerge(Checks.row(1), Checks.row(8, 1), Checks.row(1), "8+1-0@-1 1+0-0@0");
        dueMerge(Checks.row(1), Checks.row(1), Checks.row(8, 1), "8+2-0@-1 1+0-0@0");
        dueMerge(Checks.row(1), Checks.row(1, 8), Checks.row(1), "1+0-0@0 8+1-0@-1");
        dueMerge(Checks.row(1), Checks.row(1), Checks.row(1, 8), "1+0-0@0 8+2-0@-1");
        dueMerge(Checks.row(1), Checks.row(8, 1, 9), Checks.row(8, 1, 9), "8+3-0@-1 1+0-0@0 9+3-0@-1");
        // What replaces the last number comes behind the end, since the script erases first.
        dueMerge(Checks.row(1), Checks.row(8), Checks.row(1, 9), "1+0-1@0 8+1-0@-1 9+2-0@-1");
    }

    private static void mergeOfSameBeginnings() {
        checks.promise(12, "so far as the beginnings of these two rows are the same, once, inserted by both");
        dueMerge(Checks.row(), Checks.row(1, 2), Checks.row(1, 2), "1+3-0@-1 2+3-0@-1");
        dueMerge(Checks.row(), Checks.row(1, 2), Checks.row(1), "1+3-0@-1 2+1-0@-1");
        dueMerge(Checks.row(), Checks.row(1), Checks.row(1, 2), "1+3-0@-1 2+2-0@-1");
        dueMerge(Checks.row(), Checks.row(1, 2), Checks.row(1, 3), "1+3-0@-1 2+1-0@-1 3+2-0@-1");
        dueMerge(Checks.row(), Checks.row(1, 2), Checks.row(3, 2), "1+1-0@-1 2+1-0@-1 3+2-0@-1 2+2-0@-1");
        dueMerge(Checks.row(), Checks.row(1, 2), Checks.row(2), "1+1-0@-1 2+1-0@-1 2+2-0@-1");
        // The same number at another place of base is no same beginning.
        dueMerge(Checks.row(1), Checks.row(8, 1), Checks.row(1, 8), "8+1-0@-1 1+0-0@0 8+2-0@-1");
    }

    /** What both sides inserted in the merge before must not count as inserted by both now. */
    private static void mergeBehindLargerMerge() {
        checks.promise(12, "so far as the beginnings of these two rows are the same");
        RowDiffer x = Checks.withRows(Checks.row(), Checks.row(7), Checks.row(7, 8));
        x.merge(0, 2, 2);
        checks.due("left's is shorter now", x.merge(0, 1, 2) + ":" + Checks.mergeText(x), "2:7+3-0@-1 8+2-0@-1");
        x.merge(0, 2, 2);
        checks.due("right's is shorter now", x.merge(0, 2, 1) + ":" + Checks.mergeText(x), "2:7+3-0@-1 8+1-0@-1");
        x.merge(0, 2, 2);
        checks.due("left has none now", x.merge(0, 0, 2) + ":" + Checks.mergeText(x), "2:7+2-0@-1 8+2-0@-1");
        x.merge(0, 2, 2);
        checks.due("right has none now", x.merge(0, 2, 0) + ":" + Checks.mergeText(x), "2:7+1-0@-1 8+1-0@-1");
    }

    private static void mergeOfNumbersThatAreNearlyTheSame() {
        checks.promise(12, "so far as the beginnings of these two rows are the same");
        dueMerge(Checks.row(), Checks.row(0), Checks.row(256), "0+1-0@-1 256+2-0@-1");
        dueMerge(Checks.row(), Checks.row(0), Checks.row(65536), "0+1-0@-1 65536+2-0@-1");
        dueMerge(Checks.row(), Checks.row(Integer.MIN_VALUE), Checks.row(Integer.MAX_VALUE),
                "-2147483648+1-0@-1 2147483647+2-0@-1");
        dueMerge(Checks.row(), Checks.row(Integer.MIN_VALUE), Checks.row(Integer.MIN_VALUE), "-2147483648+3-0@-1");
    }

    private static void mergeOfErasedNumbers() {
        checks.promise(12, "a mark ERASED: 0 nobody, 1 left, 2 right, 3 both");
        dueMerge(Checks.row(1, 2, 3, 4), Checks.row(1, 3), Checks.row(1, 2), "1+0-0@0 2+0-1@1 3+0-2@2 4+0-3@3");
        dueMerge(Checks.row(1, 2, 3, 4), Checks.row(2, 4), Checks.row(3, 4), "1+0-3@0 2+0-2@1 3+0-1@2 4+0-0@3");
    }

    private static void mergeOfOneRow() {
        checks.promise(12, "Makes the merge of rows");
        RowDiffer x = Checks.withRows(Checks.row(3, 3), Checks.row(3));
        checks.due("thrice the same", x.merge(0, 0, 0), 2);
        checks.due("its entries", Checks.mergeText(x), "3+0-0@0 3+0-0@1");
        checks.due("left is right", x.merge(1, 0, 0), 2);
        checks.due("its entries", Checks.mergeText(x), "3+0-0@0 3+3-0@-1");
        checks.due("left is base", x.merge(0, 0, 1), 2);
        checks.due("its entries", Checks.mergeText(x), "3+0-0@0 3+0-2@1");
        checks.due("right is base", x.merge(0, 1, 0), 2);
        checks.due("its entries", Checks.mergeText(x), "3+0-0@0 3+0-1@1");
    }

    private static void mergeOfFirstAndLastRow() {
        checks.promise(12, "ROWS 0 .. 7");
        RowDiffer x = Checks.withRows(Checks.row(1));
        Checks.fill(x, 7, 2);
        checks.due("from 7", x.merge(7, 0, 0), 2);
        checks.due("its entries", Checks.mergeText(x), "2+0-3@0 1+3-0@-1");
        checks.due("to 7", x.merge(0, 7, 7), 2);
        checks.due("its entries", Checks.mergeText(x), "1+0-3@0 2+3-0@-1");
    }

    private static void mergeOfNoSuchRow() {
        checks.promise(12, "IndexOutOfBoundsException: there is no such row");
        RowDiffer x = Checks.withRows(Checks.row(1), Checks.row(2));
        x.diff(0, 1);
        x.merge(0, 1, 1);
        String before = Checks.stateText(x);
        for (int row : Checks.NO_ROWS) {
            checks.dueThrow("base " + row, Checks.INDEX, () -> x.merge(row, 0, 0));
            checks.dueThrow("left " + row, Checks.INDEX, () -> x.merge(0, row, 0));
            checks.dueThrow("right " + row, Checks.INDEX, () -> x.merge(0, 0, row));
            checks.dueThrow("all " + row, Checks.INDEX, () -> x.merge(row, row, row));
        }
        checks.due("what throws changes nothing", Checks.stateText(x), before);
    }

    private static void mergeIndexComesFirst() {
        checks.promise(12, "Of several exceptions that apply the first one listed is thrown");
        RowDiffer x = Checks.withRows(Checks.countUp(0, 101));
        for (int row : Checks.NO_ROWS) {
            checks.dueThrow("left's cost 101 and right " + row, Checks.INDEX, () -> x.merge(1, 0, row));
            checks.dueThrow("right's cost 101 and left " + row, Checks.INDEX, () -> x.merge(1, row, 0));
        }
    }

    private static void mergeAtTheHighestCost() {
        checks.promise(12, "IllegalStateException: the cost of one of the two scripts is above 100");
        RowDiffer x = Checks.withRows(Checks.countUp(0, 100), Checks.row(), Checks.countUp(200, 100));
        checks.due("100 each, erased", x.merge(0, 1, 1), 100);
        checks.due("100 each, inserted by both", x.merge(1, 0, 0), 100);
        checks.due("100 each, of other numbers", x.merge(1, 0, 2), 200);
        checks.due("100 of left alone", x.merge(1, 0, 1), 100);
        checks.due("100 of right alone", x.merge(1, 1, 0), 100);
    }

    private static void mergeAboveTheHighestCost() {
        checks.promise(12, "IllegalStateException: the cost of one of the two scripts is above 100");
        RowDiffer x = Checks.withRows(Checks.countUp(0, 101), Checks.row(), Checks.countUp(0, 51),
                Checks.countUp(200, 50));
        checks.dueThrow("left's, inserted", Checks.STATE, () -> x.merge(1, 0, 1));
        checks.dueThrow("right's, inserted", Checks.STATE, () -> x.merge(1, 1, 0));
        checks.dueThrow("both's, inserted", Checks.STATE, () -> x.merge(1, 0, 0));
        checks.dueThrow("left's, erased", Checks.STATE, () -> x.merge(0, 1, 0));
        checks.dueThrow("right's, erased", Checks.STATE, () -> x.merge(0, 0, 1));
        checks.dueThrow("both's, erased", Checks.STATE, () -> x.merge(0, 1, 1));
        checks.dueThrow("left's, 51 erased and 50 inserted", Checks.STATE, () -> x.merge(2, 3, 2));
        checks.dueThrow("right's, 51 erased and 50 inserted", Checks.STATE, () -> x.merge(2, 2, 3));
    }

    private static void refusedMergeLeavesNoMerge() {
        checks.promise(12, "what throws or is refused changes nothing");
        RowDiffer x = Checks.withRows(Checks.countUp(0, 101));
        checks.dueThrow("left's cost 101", Checks.STATE, () -> x.merge(1, 0, 1));
        checks.dueThrow("right's cost 101", Checks.STATE, () -> x.merge(1, 1, 0));
        checks.due("conflicts", x.conflicts(), -1);
        checks.dueThrow("entry 0", Checks.INDEX, () -> x.entry(0, 0));
        checks.dueThrow("see", Checks.STATE, () -> x.see(0, 2));
    }

    private static void refusedMergeLeavesTheMerge() {
        checks.promise(12, "what throws or is refused changes nothing");
        RowDiffer x = Checks.withRows(Checks.countUp(0, 101), Checks.row(), Checks.row(7), Checks.row(8));
        x.diff(2, 3);
        x.merge(1, 2, 3);
        checks.dueThrow("left's cost 101", Checks.STATE, () -> x.merge(1, 0, 2));
        checks.dueThrow("right's cost 101", Checks.STATE, () -> x.merge(1, 2, 0));
        checks.due("the merge stays", Checks.mergeText(x), "7+1-0@-1 8+2-0@-1");
        checks.due("its conflicts stay", x.conflicts(), 1);
        checks.due("the script stays", Checks.scriptText(x), "E0,0:7 I1,0:8");
    }

    private static void mergeLeavesTheScript() {
        checks.promise(12, "(The script that was made last stays.)");
        RowDiffer x = Checks.withRows(Checks.row(1), Checks.row(1, 2), Checks.row(3));
        x.diff(0, 1);
        x.merge(2, 0, 1);
        checks.due("its steps", Checks.scriptText(x), "K0,0:1 I1,1:2");
        checks.due("its hunks", Checks.hunksText(x), "1,1-0+1");
        checks.due("it works", x.apply(0, 5, false) + ":" + Checks.rowText(x, 5), "2:1 2");
    }

    private static void mergeLeavesNoScript() {
        checks.promise(12, "(The script that was made last stays.)");
        RowDiffer x = Checks.withRows(Checks.row(1), Checks.row(1, 2));
        x.merge(0, 1, 1);
        checks.due("steps", x.steps(), -1);
        checks.dueThrow("apply", Checks.STATE, () -> x.apply(0, 2, false));
    }

    /** 120 numbers of base, of which both sides put other ones in the places of the same fifty. */
    private static RowDiffer withLargestRows() {
        RowDiffer x = new RowDiffer();
        for (int k = 0; k < 120; k++) {
            x.add(0, k);
            x.add(1, k < 50 ? 1000 + k : k);
            x.add(2, k < 50 ? 2000 + k : k);
        }
        return x;
    }

    private static void mergeUpToTheLastCall() {
        checks.promise(12, "An object is used for at most 512 calls");
        RowDiffer x = withLargestRows();
        for (int call = 361; call <= 512; call++) {
            checks.due("call " + call, x.merge(0, 1, 2), 220);
        }
    }

    private static void largestMerge() {
        checks.promise(12, "how many entries it has");
        RowDiffer x = withLargestRows();
        checks.due("more than a row's 120", x.merge(0, 1, 2), 220);
        checks.dueProperties("the last of left's", what -> x.entry(99, what), 1049, 1, 0, -1);
        checks.dueProperties("the last of right's", what -> x.entry(149, what), 2049, 2, 0, -1);
        checks.dueProperties("the last", what -> x.entry(219, what), 119, 0, 0, 119);
        checks.dueThrow("behind it", Checks.INDEX, () -> x.entry(220, 0));
    }

    private static void entryOfNoMerge() {
        checks.promise(13, "IndexOutOfBoundsException: there is no such .. entry");
        RowDiffer x = Checks.withRows(Checks.row(1));
        x.diff(0, 1);
        for (int k : Checks.outside(0)) {
            checks.dueThrow("entry " + k + " without a merge", Checks.INDEX, () -> x.entry(k, 0));
        }
        x.merge(1, 1, 1);
        for (int k : Checks.outside(0)) {
            checks.dueThrow("entry " + k + " of the empty merge", Checks.INDEX, () -> x.entry(k, 0));
        }
    }

    private static void entryOutsideTheMerge() {
        checks.promise(13, "IndexOutOfBoundsException: there is no such .. entry");
        RowDiffer x = Checks.withRows(Checks.row(1), Checks.row(1, 2));
        x.merge(0, 1, 1);
        for (int what = 0; what < 4; what++) {
            int asked = what;
            for (int k : Checks.outside(2)) {
                checks.dueThrow("entry " + k + ", " + what, Checks.INDEX, () -> x.entry(k, asked));
            }
        }
        checks.due("the first and the last", Checks.mergeText(x), "1+0-0@0 2+3-0@-1");
    }

    private static void entryOfSmallerMerge() {
        checks.promise(13, "Of entry k of the merge that was made last");
        RowDiffer x = Checks.withRows(Checks.row(1, 2, 3), Checks.row(4));
        x.merge(0, 0, 0);
        x.merge(1, 1, 1);
        checks.due("entry 0", x.entry(0, 0), 4);
        checks.dueThrow("an entry that only the merge before had", Checks.INDEX, () -> x.entry(1, 0));
    }

    private static void entryPlaces() {
        checks.promise(13, "its place in base, or -1 (3)");
        RowDiffer x = Checks.withRows(Checks.countUp(0, 120), Checks.countUp(1, 119), Checks.countUp(0, 119));
        x.add(1, 500);
        x.merge(0, 1, 2);
        checks.dueProperties("the first place, erased by left", what -> x.entry(0, what), 0, 0, 1, 0);
        checks.dueProperties("the last place, erased by right", what -> x.entry(119, what), 119, 0, 2, 119);
        checks.dueProperties("none, inserted by left", what -> x.entry(120, what), 500, 1, 0, -1);
    }

    private static void entryOfNoSuchProperty() {
        checks.promise(13, "IllegalArgumentException: another what");
        RowDiffer x = Checks.withRows(Checks.row(1), Checks.row(1, 2));
        x.merge(0, 1, 1);
        String before = Checks.stateText(x);
        for (int what : Checks.NO_PROPERTIES) {
            checks.dueThrow("what " + what + " of the first entry", Checks.ARGUMENT, () -> x.entry(0, what));
            checks.dueThrow("what " + what + " of the last entry", Checks.ARGUMENT, () -> x.entry(1, what));
        }
        checks.due("what throws changes nothing", Checks.stateText(x), before);
    }

    private static void entryIndexComesFirst() {
        checks.promise(13, "Of several exceptions that apply the first one listed is thrown");
        RowDiffer x = Checks.withRows(Checks.row(1));
        checks.dueThrow("no merge and what 4", Checks.INDEX, () -> x.entry(0, 4));
        x.merge(0, 0, 0);
        for (int k : Checks.outside(1)) {
            checks.dueThrow("entry " + k + " and what 4", Checks.INDEX, () -> x.entry(k, 4));
            checks.dueThrow("entry " + k + " and what -1", Checks.INDEX, () -> x.entry(k, -1));
        }
    }

    private static void entriesStayWhenRowsChange() {
        checks.promise(13, "the merge that was made last");
        RowDiffer x = Checks.withRows(Checks.row(1, 2), Checks.row(1, 5), Checks.row(1, 2, 6));
        x.merge(0, 1, 2);
        x.add(0, 9);
        x.wipe(1);
        x.diff(0, 2);
        x.apply(0, 2, false);
        x.see(0, 0);
        checks.due("entries", Checks.mergeText(x), "1+0-0@0 2+0-1@1 5+1-0@-1 6+2-0@-1");
        checks.due("conflicts", x.conflicts(), 1);
    }

    private static void conflictsWithoutMerge() {
        checks.promise(14, "-1 if there is none");
        RowDiffer x = Checks.withRows(Checks.row(1));
        checks.due("new", x.conflicts(), -1);
        x.diff(0, 1);
        checks.due("behind a diff", x.conflicts(), -1);
        checks.dueThrow("a merge that throws", Checks.INDEX, () -> x.merge(0, 0, 8));
        checks.due("behind it", x.conflicts(), -1);
    }

    private static void dueConflicts(int[] base, int[] left, int[] right, int conflicts) {
        RowDiffer x = Checks.withRows(base, left, right);
        x.merge(0, 1, 2);
        String name = Checks.rowText(base) + " to " + Checks.rowText(left) + " and " + Checks.rowText(right);
        checks.due("conflicts of " + name, x.conflicts(), conflicts);
    }

    private static void conflictsOfMergeWithoutOne() {
        checks.promise(14, "A CONFLICT is a place .. at which both have such a rest");
        dueConflicts(Checks.row(), Checks.row(), Checks.row(), 0);
        dueConflicts(Checks.row(), Checks.row(1), Checks.row(), 0);
        dueConflicts(Checks.row(), Checks.row(), Checks.row(1), 0);
        dueConflicts(Checks.row(), Checks.row(1, 2), Checks.row(1, 2), 0);
        dueConflicts(Checks.row(), Checks.row(1), Checks.row(1, 2), 0);
        dueConflicts(Checks.row(), Checks.row(1, 2), Checks.row(1), 0);
        dueConflicts(Checks.row(1), Checks.row(2, 1), Checks.row(1, 3), 0);
        dueConflicts(Checks.row(1, 2), Checks.row(2), Checks.row(1), 0);
        dueConflicts(Checks.row(1, 2), Checks.row(), Checks.row(), 0);
    }

    private static void conflictAtTheBeginningAndAtTheEnd() {
        checks.promise(14, "a place p (or the end) at which both have such a rest");
        dueConflicts(Checks.row(), Checks.row(1), Checks.row(2), 1);
        dueConflicts(Checks.row(9), Checks.row(1, 9), Checks.row(2, 9), 1);
        dueConflicts(Checks.row(9), Checks.row(9, 1), Checks.row(9, 2), 1);
        dueConflicts(Checks.row(9), Checks.row(1, 9, 1), Checks.row(2, 9, 2), 2);
        dueConflicts(Checks.row(9), Checks.row(9, 1, 2, 3), Checks.row(9, 1, 4), 1);
        dueConflicts(Checks.row(9), Checks.row(1), Checks.row(2), 1);
    }

    /** Both sides put another number at each place and at the end, and so have all but a full row. */
    private static void mostConflicts() {
        checks.promise(14, "How many conflicts that merge has");
        RowDiffer x = new RowDiffer();
        for (int k = 0; k < 60; k++) {
            x.add(1, 1000 + k);
            x.add(2, 2000 + k);
            if (k < 59) {
                x.add(0, k);
                x.add(1, k);
                x.add(2, k);
            }
        }
        checks.due("entries", x.merge(0, 1, 2), 179);
        checks.due("conflicts", x.conflicts(), 60);
    }

    private static void conflictsOfTheLastMerge() {
        checks.promise(14, "How many conflicts that merge has");
        RowDiffer x = Checks.withRows(Checks.row(), Checks.row(1), Checks.row(2), Checks.countUp(0, 101));
        x.merge(0, 1, 2);
        checks.due("the first", x.conflicts(), 1);
        x.merge(0, 1, 2);
        checks.due("the same again", x.conflicts(), 1);
        x.merge(0, 1, 1);
        checks.due("another", x.conflicts(), 0);
        x.merge(0, 0, 0);
        checks.due("the empty merge", x.conflicts(), 0);
        checks.dueThrow("one that is not made", Checks.STATE, () -> x.merge(0, 3, 1));
        checks.due("still the empty one", x.conflicts(), 0);
    }

    private static void seeWithEachSet() {
        checks.promise(15, "SEEN .. if it was inserted by nobody or by one of these, and is erased by none of these");
        RowDiffer x = Checks.withRows(Checks.row(1, 2, 3, 4), Checks.row(5, 6, 1, 3), Checks.row(5, 7, 1, 2));
        x.merge(0, 1, 2);
        checks.due("entries", Checks.mergeText(x),
                "5+3-0@-1 6+1-0@-1 7+2-0@-1 1+0-0@0 2+0-1@1 3+0-2@2 4+0-3@3");
        String[] due = {"4:1 2 3 4", "4:5 6 1 3", "4:5 7 1 2", "4:5 6 7 1"};
        for (int sides = 0; sides < 4; sides++) {
            checks.due("sides " + sides, x.see(sides, 7) + ":" + Checks.rowText(x, 7), due[sides]);
        }
    }

    private static void seeOfNothing() {
        checks.promise(15, "how many");
        RowDiffer x = Checks.withRows(Checks.row(1), Checks.row(), Checks.row(8, 9));
        x.merge(1, 1, 1);
        for (int sides = 0; sides < 4; sides++) {
            Checks.fill(x, 2, 8, 9);
            checks.due("the empty merge, sides " + sides, x.see(sides, 2) + ":" + x.length(2), "0:0");
        }
        x.merge(0, 1, 0);
        checks.due("all erased by left", x.see(1, 2) + ":" + x.length(2), "0:0");
        checks.due("but not by right", x.see(2, 2) + ":" + x.length(2), "1:1");
        checks.due("nor by nobody", x.see(0, 2) + ":" + x.length(2), "1:1");
        checks.due("all erased with both", x.see(3, 2) + ":" + x.length(2), "0:0");
        x.merge(1, 0, 0);
        checks.due("all inserted by both, with nobody", x.see(0, 2) + ":" + x.length(2), "0:0");
    }

    private static void seeIntoLongerRow() {
        checks.promise(15, "Row into becomes the numbers of the entries that are seen");
        RowDiffer x = Checks.withRows(Checks.row(1), Checks.row(2), Checks.countUp(50, 120));
        x.merge(0, 1, 0);
        checks.due("into a full row", x.see(3, 2) + ":" + Checks.rowText(x, 2), "1:2");
    }

    private static void seeIntoRowOfTheMerge() {
        checks.promise(15, "Row into becomes the numbers of the entries that are seen");
        RowDiffer x = Checks.withRows(Checks.row(1), Checks.row(1, 2), Checks.row(3, 1));
        x.merge(0, 1, 2);
        checks.due("into base", x.see(3, 0) + ":" + Checks.rowText(x, 0), "3:3 1 2");
        checks.due("into left", x.see(0, 1) + ":" + Checks.rowText(x, 1), "1:1");
        checks.due("into right", x.see(1, 2) + ":" + Checks.rowText(x, 2), "2:1 2");
    }

    private static RowDiffer withInserts(int byLeft, int byRight) {
        RowDiffer x = Checks.withRows(Checks.row(), Checks.countUp(100, byLeft), Checks.countUp(200, byRight),
                Checks.row(9));
        x.merge(0, 1, 2);
        return x;
    }

    private static void seeUpToFullRow() {
        checks.promise(15, "IllegalStateException: as said, or a row would have more than 120 numbers");
        RowDiffer x = withInserts(60, 60);
        checks.due("120", x.see(3, 3), 120);
        checks.due("the last of them", x.length(3) + " " + x.number(3, 119), "120 259");
        RowDiffer y = withInserts(60, 61);
        checks.due("fewer of a merge of 121", y.see(2, 3), 61);
    }

    private static void seeMoreThanRowHolds() {
        checks.promise(15, "IllegalStateException: as said, or a row would have more than 120 numbers");
        RowDiffer x = withInserts(60, 61);
        checks.dueThrow("121", Checks.STATE, () -> x.see(3, 3));
        checks.due("what throws changes nothing", Checks.rowText(x, 3), "9");
        RowDiffer y = withInserts(100, 100);
        checks.dueThrow("200", Checks.STATE, () -> y.see(3, 3));
        checks.dueThrow("200 into a row of the merge", Checks.STATE, () -> y.see(3, 1));
        checks.due("what throws changes nothing", Checks.rowText(y, 3) + " " + y.length(1), "9 100");
    }

    private static void seeWithNoSuchSet() {
        checks.promise(15, "IllegalArgumentException: there is no such set");
        RowDiffer x = Checks.withRows(Checks.row(1), Checks.row(1, 2));
        x.merge(0, 1, 1);
        String before = Checks.stateText(x);
        for (int sides : Checks.NO_SETS) {
            checks.dueThrow("sides " + sides, Checks.ARGUMENT, () -> x.see(sides, 0));
        }
        checks.due("what throws changes nothing", Checks.stateText(x), before);
    }

    private static void seeIntoNoSuchRow() {
        checks.promise(15, "IndexOutOfBoundsException: there is no such row");
        RowDiffer x = Checks.withRows(Checks.row(1), Checks.row(1, 2));
        x.merge(0, 1, 1);
        String before = Checks.stateText(x);
        for (int row : Checks.NO_ROWS) {
            checks.dueThrow("into " + row, Checks.INDEX, () -> x.see(0, row));
        }
        checks.due("what throws changes nothing", Checks.stateText(x), before);
        checks.due("into the first row", x.see(1, 0), 2);
        checks.due("into the last row", x.see(0, 7), 1);
    }

    private static void seeWithoutMerge() {
        checks.promise(15, "IllegalStateException: there is no merge");
        RowDiffer x = Checks.withRows(Checks.row(1), Checks.row(1, 2));
        x.diff(0, 1);
        String before = Checks.stateText(x);
        for (int sides = 0; sides < 4; sides++) {
            int asked = sides;
            checks.dueThrow("sides " + sides, Checks.STATE, () -> x.see(asked, 0));
        }
        checks.due("what throws changes nothing", Checks.stateText(x), before);
    }

    private static void seeFirstListedComesFirst() {
        checks.promise(15, "Of several exceptions that apply the first one listed is thrown");
        RowDiffer x = new RowDiffer();
        RowDiffer y = withInserts(60, 61);
        for (int row : Checks.NO_ROWS) {
            checks.dueThrow("no set, no merge, into " + row, Checks.INDEX, () -> x.see(4, row));
            checks.dueThrow("no merge, into " + row, Checks.INDEX, () -> x.see(0, row));
            checks.dueThrow("no set, into " + row, Checks.INDEX, () -> y.see(-1, row));
            checks.dueThrow("121 numbers, into " + row, Checks.INDEX, () -> y.see(3, row));
        }
        for (int sides : Checks.NO_SETS) {
            checks.dueThrow("no merge, sides " + sides, Checks.ARGUMENT, () -> x.see(sides, 0));
        }
        checks.dueThrow("121 numbers with bits 1 and 2, sides 7", Checks.ARGUMENT, () -> y.see(7, 3));
    }
}
