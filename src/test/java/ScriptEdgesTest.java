/** The boundary cases of promises 6 to 11, a method for each sentence that names one. */
public final class ScriptEdgesTest {
    private static final Checks checks = new Checks();

    public static void main(String[] args) {
        checks.run(ScriptEdgesTest::diffWithNothingLeft);
        checks.run(ScriptEdgesTest::diffOfNumbersThatAreNearlyTheSame);
        checks.run(ScriptEdgesTest::diffWhereBothWaysAreAsGood);
        checks.run(ScriptEdgesTest::diffWhereOnlyInsertIsBest);
        checks.run(ScriptEdgesTest::diffOfChoiceAtTheLastPlaces);
        checks.run(ScriptEdgesTest::diffOfRowItself);
        checks.run(ScriptEdgesTest::diffOfFirstAndLastRow);
        checks.run(ScriptEdgesTest::diffOfNoSuchRow);
        checks.run(ScriptEdgesTest::diffAtTheHighestCost);
        checks.run(ScriptEdgesTest::diffAboveTheHighestCost);
        checks.run(ScriptEdgesTest::refusedDiffLeavesNoScript);
        checks.run(ScriptEdgesTest::refusedDiffLeavesTheScript);
        checks.run(ScriptEdgesTest::scriptStaysWhenRowsChange);
        checks.run(ScriptEdgesTest::stepsWithoutScript);
        checks.run(ScriptEdgesTest::stepsOfEmptyScript);
        checks.run(ScriptEdgesTest::stepsOfLongestScript);
        checks.run(ScriptEdgesTest::stepsOfTheLastScript);
        checks.run(ScriptEdgesTest::stepOfNoScript);
        checks.run(ScriptEdgesTest::stepOutsideTheScript);
        checks.run(ScriptEdgesTest::stepOfShorterScript);
        checks.run(ScriptEdgesTest::stepOfNoSuchProperty);
        checks.run(ScriptEdgesTest::stepIndexComesFirst);
        checks.run(ScriptEdgesTest::hunksWithoutScript);
        checks.run(ScriptEdgesTest::hunksOfScriptWithoutOne);
        checks.run(ScriptEdgesTest::hunksAtBothEnds);
        checks.run(ScriptEdgesTest::mostHunks);
        checks.run(ScriptEdgesTest::hunkOfWholeScript);
        checks.run(ScriptEdgesTest::hunkEndsAtKeep);
        checks.run(ScriptEdgesTest::hunkOutsideTheScript);
        checks.run(ScriptEdgesTest::hunkOfNoSuchProperty);
        checks.run(ScriptEdgesTest::hunkIndexComesFirst);
        checks.run(ScriptEdgesTest::applyWithoutScript);
        checks.run(ScriptEdgesTest::applyOfEmptyScript);
        checks.run(ScriptEdgesTest::applyToAndFromEmptyRow);
        checks.run(ScriptEdgesTest::applyToAndFromFullRow);
        checks.run(ScriptEdgesTest::applyIntoLongerRow);
        checks.run(ScriptEdgesTest::applyForwardsOfOtherRow);
        checks.run(ScriptEdgesTest::applyBackwardsOfOtherRow);
        checks.run(ScriptEdgesTest::applyOfFullRowWithOneOtherNumber);
        checks.run(ScriptEdgesTest::applyOntoItself);
        checks.run(ScriptEdgesTest::applyOfNoSuchRow);
        checks.run(ScriptEdgesTest::applyIndexComesFirst);
        checks.end();
    }

    private static void dueScript(int[] a, int[] b, int cost, String script) {
        RowDiffer x = Checks.withRows(a, b);
        String name = Checks.rowText(a) + " to " + Checks.rowText(b);
        checks.due("cost of " + name, x.diff(0, 1), cost);
        checks.due("script of " + name, Checks.scriptText(x), script);
    }

    private static void diffWithNothingLeft() {
        checks.promise(6, "as long as something is left");
        dueScript(Checks.row(), Checks.row(), 0, "");
        dueScript(Checks.row(1), Checks.row(), 1, "E0,0:1");
        dueScript(Checks.row(), Checks.row(1), 1, "I0,0:1");
        dueScript(Checks.row(1), Checks.row(1), 0, "K0,0:1");
        dueScript(Checks.row(1, 2, 3), Checks.row(1), 2, "K0,0:1 E1,1:2 E2,1:3");
        dueScript(Checks.row(1), Checks.row(1, 2, 3), 2, "K0,0:1 I1,1:2 I1,2:3");
    }

    private static void diffOfNumbersThatAreNearlyTheSame() {
        checks.promise(6, "KEEP, if .. the two numbers at i and j are the same");
        dueScript(Checks.row(0), Checks.row(256), 2, "E0,0:0 I1,0:256");
        dueScript(Checks.row(0), Checks.row(65536), 2, "E0,0:0 I1,0:65536");
        dueScript(Checks.row(1), Checks.row(-1), 2, "E0,0:1 I1,0:-1");
        dueScript(Checks.row(Integer.MIN_VALUE), Checks.row(Integer.MAX_VALUE), 2,
                "E0,0:-2147483648 I1,0:2147483647");
        dueScript(Checks.row(Integer.MIN_VALUE), Checks.row(0), 2, "E0,0:-2147483648 I1,0:0");
        dueScript(Checks.row(Integer.MIN_VALUE, Integer.MAX_VALUE), Checks.row(Integer.MIN_VALUE, Integer.MAX_VALUE), 0,
                "K0,0:-2147483648 K1,1:2147483647");
        dueScript(Checks.row(1000), Checks.row(1000), 0, "K0,0:1000");
    }

    private static void diffWhereBothWaysAreAsGood() {
        checks.promise(6, "otherwise ERASE, if .. with it the rest can be done at the least cost");
        dueScript(Checks.row(1), Checks.row(2), 2, "E0,0:1 I1,0:2");
        dueScript(Checks.row(1, 2), Checks.row(2, 1), 2, "E0,0:1 K1,0:2 I2,1:1");
        dueScript(Checks.row(1, 2), Checks.row(3, 4), 4, "E0,0:1 E1,0:2 I2,0:3 I2,1:4");
    }

    private static void diffWhereOnlyInsertIsBest() {
        checks.promise(6, "otherwise INSERT");
        dueScript(Checks.row(1), Checks.row(2, 1), 1, "I0,0:2 K0,1:1");
        dueScript(Checks.row(1, 2, 3), Checks.row(3, 1, 2), 2, "I0,0:3 K0,1:1 K1,2:2 E2,3:3");
    }

    /** The choice at the last places is another one than that between the last place of a and an early one of b. */
    private static void diffOfChoiceAtTheLastPlaces() {
        checks.promise(6, "It has the least cost that there is");
        int[] a = Checks.countUp(0, 120);
        int[] b = Checks.countUp(0, 120);
        a[119] = 80;
        b[119] = 1000;
        RowDiffer x = Checks.withRows(a, b);
        checks.due("cost", x.diff(0, 1), 2);
        checks.due("step 119", x.step(119, 0) + " " + x.step(119, 3), "1 80");
        checks.due("step 120", x.step(120, 0) + " " + x.step(120, 3), "2 1000");
    }

    private static void diffOfRowItself() {
        checks.promise(6, "(which may be the same)");
        RowDiffer x = Checks.withRows(Checks.row(4, 4, 5), Checks.countUp(0, 120));
        checks.due("a row", x.diff(0, 0), 0);
        checks.due("its script", Checks.scriptText(x), "K0,0:4 K1,1:4 K2,2:5");
        checks.due("a full row", x.diff(1, 1), 0);
        checks.due("its steps", x.steps(), 120);
        checks.due("an empty row", x.diff(2, 2), 0);
        checks.due("its steps", x.steps(), 0);
    }

    private static void diffOfFirstAndLastRow() {
        checks.promise(6, "ROWS 0 .. 7");
        RowDiffer x = Checks.withRows(Checks.row(1));
        Checks.fill(x, 7, 1, 2, 3);
        checks.due("from 0 to 7", x.diff(0, 7), 2);
        checks.due("its script", Checks.scriptText(x), "K0,0:1 I1,1:2 I1,2:3");
        checks.due("from 7 to 0", x.diff(7, 0), 2);
        checks.due("its script", Checks.scriptText(x), "K0,0:1 E1,1:2 E2,1:3");
    }

    private static void diffOfNoSuchRow() {
        checks.promise(6, "IndexOutOfBoundsException: there is no such row");
        RowDiffer x = Checks.withRows(Checks.row(1), Checks.row(2));
        x.diff(0, 1);
        String before = Checks.stateText(x);
        for (int row : Checks.NO_ROWS) {
            checks.dueThrow("from row " + row, Checks.INDEX, () -> x.diff(row, 0));
            checks.dueThrow("to row " + row, Checks.INDEX, () -> x.diff(0, row));
            checks.dueThrow("from and to row " + row, Checks.INDEX, () -> x.diff(row, row));
        }
        checks.due("what throws changes nothing", Checks.stateText(x), before);
    }

    private static void diffAtTheHighestCost() {
        checks.promise(6, "IllegalStateException: that is above 100");
        RowDiffer x = Checks.withRows(Checks.countUp(0, 100), Checks.row(), Checks.countUp(0, 120),
                Checks.countUp(50, 20));
        checks.due("100 by erasing", x.diff(0, 1), 100);
        checks.due("its steps", x.steps(), 100);
        checks.due("100 by inserting", x.diff(1, 0), 100);
        checks.due("its steps", x.steps(), 100);
        checks.due("100 round KEEPs", x.diff(2, 3), 100);
        checks.due("its steps", x.steps(), 120);
        RowDiffer y = Checks.withRows(Checks.countUp(0, 50), Checks.countUp(100, 50));
        checks.due("50 by erasing and 50 by inserting", y.diff(0, 1), 100);
    }

    private static void diffAboveTheHighestCost() {
        checks.promise(6, "IllegalStateException: that is above 100");
        RowDiffer x = Checks.withRows(Checks.countUp(0, 101), Checks.row(), Checks.countUp(0, 120),
                Checks.countUp(50, 19));
        checks.dueThrow("101 by erasing", Checks.STATE, () -> x.diff(0, 1));
        checks.dueThrow("101 by inserting", Checks.STATE, () -> x.diff(1, 0));
        checks.dueThrow("101 round KEEPs", Checks.STATE, () -> x.diff(2, 3));
        RowDiffer y = Checks.withRows(Checks.countUp(0, 50), Checks.countUp(100, 51));
        checks.dueThrow("50 by erasing and 51 by inserting", Checks.STATE, () -> y.diff(0, 1));
        checks.dueThrow("51 by erasing and 50 by inserting", Checks.STATE, () -> y.diff(1, 0));
        RowDiffer z = Checks.withRows(Checks.countUp(0, 120), Checks.countUp(200, 120));
        checks.dueThrow("240, the most that can be", Checks.STATE, () -> z.diff(0, 1));
    }

    private static void refusedDiffLeavesNoScript() {
        checks.promise(6, "what throws or is refused changes nothing");
        RowDiffer x = Checks.withRows(Checks.countUp(0, 101));
        checks.dueThrow("101", Checks.STATE, () -> x.diff(0, 1));
        checks.due("steps", x.steps(), -1);
        checks.due("hunks", x.hunks(), -1);
        checks.dueThrow("apply", Checks.STATE, () -> x.apply(0, 2, false));
    }

    private static void refusedDiffLeavesTheScript() {
        checks.promise(6, "what throws or is refused changes nothing");
        RowDiffer x = Checks.withRows(Checks.row(1, 2), Checks.row(2, 3), Checks.countUp(0, 101));
        x.diff(0, 1);
        x.merge(0, 1, 1);
        checks.dueThrow("101", Checks.STATE, () -> x.diff(2, 3));
        checks.due("the script stays", Checks.scriptText(x), "E0,0:1 K1,0:2 I2,1:3");
        checks.due("its hunks stay", Checks.hunksText(x), "0,0-1+0 2,1-0+1");
        checks.due("the merge stays", Checks.mergeText(x), "1+0-3@0 2+0-0@1 3+3-0@-1");
    }

    private static void scriptStaysWhenRowsChange() {
        checks.promise(6, "(The script stays when rows change.)");
        RowDiffer x = Checks.withRows(Checks.row(1, 2), Checks.row(2, 3), Checks.row(1, 2));
        x.diff(0, 1);
        String script = Checks.scriptText(x);
        x.add(0, 9);
        checks.due("behind add", Checks.scriptText(x), script);
        x.wipe(1);
        checks.due("behind wipe", Checks.scriptText(x), script);
        x.apply(2, 0, false);
        checks.due("behind apply", Checks.scriptText(x), script);
        x.merge(4, 5, 6);
        x.see(3, 0);
        checks.due("behind see", Checks.scriptText(x), script);
        checks.due("its cost still makes two hunks", Checks.hunksText(x), "0,0-1+0 2,1-0+1");
    }

    private static void stepsWithoutScript() {
        checks.promise(7, "-1 if none was");
        RowDiffer x = Checks.withRows(Checks.row(1));
        checks.due("new", x.steps(), -1);
        x.merge(0, 0, 1);
        checks.due("behind a merge", x.steps(), -1);
        checks.dueThrow("a diff that throws", Checks.INDEX, () -> x.diff(0, 8));
        checks.due("behind it", x.steps(), -1);
    }

    private static void stepsOfEmptyScript() {
        checks.promise(7, "How many steps the script has");
        RowDiffer x = Checks.withRows(Checks.row(1));
        x.diff(1, 2);
        checks.due("of two empty rows", x.steps(), 0);
        x.diff(0, 1);
        checks.due("one", x.steps(), 1);
    }

    private static void stepsOfLongestScript() {
        checks.promise(7, "How many steps the script has");
        int[] b = Checks.countUp(0, 120);
        for (int k = 0; k < 50; k++) {
            b[2 * k] = 1000 + k;
        }
        RowDiffer x = Checks.withRows(Checks.countUp(0, 120), b);
        checks.due("cost of the longest script", x.diff(0, 1), 100);
        checks.due("its steps", x.steps(), 170);
        checks.dueProperties("its last step", what -> x.step(169, what), 0, 119, 119, 119);
        checks.dueThrow("the step behind it", Checks.INDEX, () -> x.step(170, 0));
    }

    private static void stepsOfTheLastScript() {
        checks.promise(7, "the script .. that was made last");
        RowDiffer x = Checks.withRows(Checks.row(1, 2), Checks.row(3, 4), Checks.countUp(0, 101));
        x.diff(0, 1);
        checks.due("the first", x.steps(), 4);
        x.diff(0, 0);
        checks.due("the second", x.steps(), 2);
        checks.dueThrow("one that is not made", Checks.STATE, () -> x.diff(2, 3));
        checks.due("still the second", x.steps(), 2);
        x.merge(0, 1, 1);
        checks.due("behind a merge still the second", x.steps(), 2);
    }

    private static void stepOfNoScript() {
        checks.promise(8, "IndexOutOfBoundsException: there is no such .. step");
        RowDiffer x = Checks.withRows(Checks.row(1));
        x.merge(0, 1, 1);
        for (int k : Checks.outside(0)) {
            checks.dueThrow("step " + k + " without a script", Checks.INDEX, () -> x.step(k, 0));
        }
        x.diff(1, 1);
        for (int k : Checks.outside(0)) {
            checks.dueThrow("step " + k + " of the empty script", Checks.INDEX, () -> x.step(k, 0));
        }
    }

    private static void stepOutsideTheScript() {
        checks.promise(8, "IndexOutOfBoundsException: there is no such .. step");
        RowDiffer x = Checks.withRows(Checks.row(5, 6), Checks.row(5, 7));
        x.diff(0, 1);
        for (int what = 0; what < 4; what++) {
            int asked = what;
            for (int k : Checks.outside(3)) {
                checks.dueThrow("step " + k + ", " + what, Checks.INDEX, () -> x.step(k, asked));
            }
        }
        checks.dueProperties("the first step", what -> x.step(0, what), 0, 0, 0, 5);
        checks.dueProperties("the last step", what -> x.step(2, what), 2, 2, 1, 7);
    }

    private static void stepOfShorterScript() {
        checks.promise(8, "Of step k of it");
        RowDiffer x = Checks.withRows(Checks.row(1, 2, 3), Checks.row(1));
        x.diff(0, 1);
        x.diff(1, 1);
        checks.due("step 0", x.step(0, 3), 1);
        checks.dueThrow("a step that only the script before had", Checks.INDEX, () -> x.step(1, 0));
    }

    private static void stepOfNoSuchProperty() {
        checks.promise(8, "IllegalArgumentException: another what");
        RowDiffer x = Checks.withRows(Checks.row(5, 6), Checks.row(5, 7));
        x.diff(0, 1);
        String before = Checks.stateText(x);
        for (int what : Checks.NO_PROPERTIES) {
            checks.dueThrow("what " + what + " of the first step", Checks.ARGUMENT, () -> x.step(0, what));
            checks.dueThrow("what " + what + " of the last step", Checks.ARGUMENT, () -> x.step(2, what));
        }
        checks.due("what throws changes nothing", Checks.stateText(x), before);
    }

    private static void stepIndexComesFirst() {
        checks.promise(8, "Of several exceptions that apply the first one listed is thrown");
        RowDiffer x = Checks.withRows(Checks.row(5));
        checks.dueThrow("no script and what 4", Checks.INDEX, () -> x.step(0, 4));
        x.diff(0, 0);
        for (int k : Checks.outside(1)) {
            checks.dueThrow("step " + k + " and what 4", Checks.INDEX, () -> x.step(k, 4));
            checks.dueThrow("step " + k + " and what -1", Checks.INDEX, () -> x.step(k, -1));
        }
    }

    private static void hunksWithoutScript() {
        checks.promise(9, "-1 if there is no script");
        RowDiffer x = Checks.withRows(Checks.row(1));
        checks.due("new", x.hunks(), -1);
        x.merge(0, 1, 1);
        checks.due("behind a merge", x.hunks(), -1);
    }

    private static void hunksOfScriptWithoutOne() {
        checks.promise(9, "How many hunks it has");
        RowDiffer x = Checks.withRows(Checks.row(1, 2));
        x.diff(1, 2);
        checks.due("the empty script", x.hunks(), 0);
        x.diff(0, 0);
        checks.due("KEEPs alone", x.hunks(), 0);
    }

    private static void hunksAtBothEnds() {
        checks.promise(9, "A HUNK is a longest row of its steps that are no KEEP");
        RowDiffer x = Checks.withRows(Checks.row(1, 2, 3, 4, 5), Checks.row(7, 3, 8, 9), Checks.row(3));
        x.diff(0, 1);
        checks.due("ERASEs and INSERTs side by side are one", Checks.hunksText(x), "0,0-2+1 3,2-2+2");
        x.diff(0, 2);
        checks.due("at the beginning and at the end, erased", Checks.hunksText(x), "0,0-2+0 3,1-2+0");
        x.diff(2, 0);
        checks.due("at the beginning and at the end, inserted", Checks.hunksText(x), "0,0-0+2 1,3-0+2");
        x.diff(0, 3);
        checks.due("all steps are one", x.hunks(), 1);
    }

    /** Each hunk one step and a KEEP between all of them: no script of rows of 120 has more. */
    private static void mostHunks() {
        checks.promise(9, "How many hunks it has");
        int[] a = new int[120];
        int[] b = new int[120];
        for (int k = 0; k < 120; k += 3) {
            a[k] = 1000 + k;
            a[k + 1] = b[k] = k;
            a[k + 2] = b[k + 2] = k + 1;
            b[k + 1] = 2000 + k;
        }
        RowDiffer x = Checks.withRows(a, b);
        checks.due("cost", x.diff(0, 1), 80);
        checks.due("hunks", x.hunks(), 80);
        checks.dueProperties("hunk 78", what -> x.hunk(78, what), 117, 117, 1, 0);
        checks.dueProperties("hunk 79", what -> x.hunk(79, what), 119, 118, 0, 1);
        checks.dueThrow("hunk 80", Checks.INDEX, () -> x.hunk(80, 0));
    }

    private static void hunkOfWholeScript() {
        checks.promise(10, "how many it erases (2), how many it inserts (3)");
        RowDiffer x = Checks.withRows(Checks.countUp(0, 100), Checks.row(), Checks.countUp(200, 50),
                Checks.countUp(300, 50));
        x.diff(0, 1);
        checks.due("100 erased", Checks.hunksText(x), "0,0-100+0");
        x.diff(1, 0);
        checks.due("100 inserted", Checks.hunksText(x), "0,0-0+100");
        x.diff(2, 3);
        checks.due("50 and 50", Checks.hunksText(x), "0,0-50+50");
    }

    private static void hunkEndsAtKeep() {
        checks.promise(10, "A HUNK is a longest row of its steps that are no KEEP");
        RowDiffer x = Checks.withRows(Checks.row(1, 2, 3, 4, 5), Checks.row(7, 3, 8, 9));
        x.diff(0, 1);
        checks.dueProperties("hunk 0", what -> x.hunk(0, what), 0, 0, 2, 1);
        checks.dueProperties("hunk 1", what -> x.hunk(1, what), 3, 2, 2, 2);
    }

    private static void hunkOutsideTheScript() {
        checks.promise(10, "IndexOutOfBoundsException: there is no such .. hunk");
        RowDiffer x = Checks.withRows(Checks.row(5, 6, 7), Checks.row(6));
        x.merge(0, 1, 1);
        for (int k : Checks.outside(0)) {
            checks.dueThrow("hunk " + k + " without a script", Checks.INDEX, () -> x.hunk(k, 0));
        }
        x.diff(0, 1);
        for (int k : Checks.outside(2)) {
            checks.dueThrow("hunk " + k + " of two", Checks.INDEX, () -> x.hunk(k, 0));
        }
        x.diff(0, 0);
        for (int k : Checks.outside(0)) {
            checks.dueThrow("hunk " + k + " of KEEPs alone", Checks.INDEX, () -> x.hunk(k, 0));
        }
        x.diff(2, 2);
        for (int k : Checks.outside(0)) {
            checks.dueThrow("hunk " + k + " of the empty script", Checks.INDEX, () -> x.hunk(k, 0));
        }
    }

    private static void hunkOfNoSuchProperty() {
        checks.promise(10, "IllegalArgumentException: another what");
        RowDiffer x = Checks.withRows(Checks.row(5, 6, 7), Checks.row(6));
        x.diff(0, 1);
        String before = Checks.stateText(x);
        for (int what : Checks.NO_PROPERTIES) {
            checks.dueThrow("what " + what + " of the first hunk", Checks.ARGUMENT, () -> x.hunk(0, what));
            checks.dueThrow("what " + what + " of the last hunk", Checks.ARGUMENT, () -> x.hunk(1, what));
        }
        checks.due("what throws changes nothing", Checks.stateText(x), before);
    }

    private static void hunkIndexComesFirst() {
        checks.promise(10, "Of several exceptions that apply the first one listed is thrown");
        RowDiffer x = Checks.withRows(Checks.row(5));
        checks.dueThrow("no script and what 4", Checks.INDEX, () -> x.hunk(0, 4));
        x.diff(0, 1);
        for (int k : Checks.outside(1)) {
            checks.dueThrow("hunk " + k + " and what 4", Checks.INDEX, () -> x.hunk(k, 4));
            checks.dueThrow("hunk " + k + " and what -1", Checks.INDEX, () -> x.hunk(k, -1));
        }
    }

    private static void applyWithoutScript() {
        checks.promise(11, "IllegalStateException: there is no script");
        RowDiffer x = Checks.withRows(Checks.row(1), Checks.row(2));
        x.merge(0, 1, 1);
        String before = Checks.stateText(x);
        checks.dueThrow("forwards", Checks.STATE, () -> x.apply(0, 1, false));
        checks.dueThrow("backwards", Checks.STATE, () -> x.apply(0, 1, true));
        checks.dueThrow("forwards of an empty row", Checks.STATE, () -> x.apply(2, 1, false));
        checks.dueThrow("backwards of an empty row", Checks.STATE, () -> x.apply(2, 1, true));
        checks.dueThrow("onto itself", Checks.STATE, () -> x.apply(0, 0, false));
        checks.due("what throws changes nothing", Checks.stateText(x), before);
    }

    private static void applyOfEmptyScript() {
        checks.promise(11, "or the row isn't, number by number, what the script keeps and erases");
        RowDiffer x = Checks.withRows(Checks.row(1), Checks.row(), Checks.row(2));
        x.diff(1, 3);
        checks.due("forwards of an empty row", x.apply(1, 3, false), 0);
        checks.due("backwards of an empty row", x.apply(1, 3, true), 0);
        checks.dueThrow("forwards of a row of one", Checks.STATE, () -> x.apply(0, 2, false));
        checks.dueThrow("backwards of a row of one", Checks.STATE, () -> x.apply(0, 2, true));
        checks.due("into stays", Checks.rowText(x, 2), "2");
    }

    private static void applyToAndFromEmptyRow() {
        checks.promise(11, "how many numbers it has then");
        RowDiffer x = Checks.withRows(Checks.row(1, 2), Checks.row(), Checks.row(8, 8, 8));
        x.diff(0, 1);
        checks.due("forwards to none", x.apply(0, 2, false), 0);
        checks.due("row then", x.length(2), 0);
        checks.due("backwards from none", x.apply(1, 7, true), 2);
        checks.due("row then", Checks.rowText(x, 7), "1 2");
        x.diff(1, 0);
        checks.due("forwards from none", x.apply(1, 2, false), 2);
        checks.due("row then", Checks.rowText(x, 2), "1 2");
        checks.due("backwards to none", x.apply(0, 7, true), 0);
        checks.due("row then", x.length(7), 0);
    }

    private static void applyToAndFromFullRow() {
        checks.promise(11, "how many numbers it has then");
        RowDiffer x = Checks.withRows(Checks.countUp(0, 20), Checks.countUp(0, 120));
        x.diff(0, 1);
        checks.due("forwards to 120", x.apply(0, 2, false), 120);
        checks.due("row then", Checks.rowText(x, 2), Checks.rowText(Checks.countUp(0, 120)));
        checks.due("backwards from 120", x.apply(2, 2, true), 20);
        checks.due("row then", Checks.rowText(x, 2), Checks.rowText(Checks.countUp(0, 20)));
        checks.due("a full row to itself", x.diff(1, 1), 0);
        checks.due("forwards from 120 to 120", x.apply(1, 3, false), 120);
    }

    private static void applyIntoLongerRow() {
        checks.promise(11, "Row into becomes what the script makes of a row");
        RowDiffer x = Checks.withRows(Checks.row(1, 2), Checks.row(2, 3, 4), Checks.countUp(50, 120));
        x.diff(0, 1);
        checks.due("into a full row", x.apply(0, 2, false), 3);
        checks.due("row then", Checks.rowText(x, 2), "2 3 4");
        checks.due("the row itself stays", Checks.rowText(x, 0), "1 2");
        checks.due("backwards into a longer row", x.apply(1, 2, true), 2);
        checks.due("row then", Checks.rowText(x, 2), "1 2");
    }

    private static void dueRefused(int[] a, int[] b, boolean back, int[][] others) {
        for (int[] other : others) {
            RowDiffer x = Checks.withRows(a, b, other, Checks.row(9));
            x.diff(0, 1);
            String before = Checks.stateText(x);
            String name = "of \"" + Checks.rowText(other) + "\"";
            checks.dueThrow(name, Checks.STATE, () -> x.apply(2, 3, back));
            checks.dueThrow(name + " onto itself", Checks.STATE, () -> x.apply(2, 2, back));
            checks.due("what throws changes nothing, " + name, Checks.stateText(x), before);
        }
    }

    private static void applyForwardsOfOtherRow() {
        checks.promise(11, "or the row isn't, number by number, what the script keeps and erases");
        int[][] others = {{}, {1}, {2}, {1, 2, 2}, {1, 2, 3}, {1, 3}, {3, 2}, {2, 1}, {2, 3}, {257, 2}};
        dueRefused(Checks.row(1, 2), Checks.row(2, 3), false, others);
    }

    private static void applyBackwardsOfOtherRow() {
        checks.promise(11, "(back: keeps and inserts)");
        int[][] others = {{}, {2}, {3}, {2, 3, 3}, {1, 2, 3}, {2, 1}, {1, 3}, {3, 2}, {1, 2}, {2, 259}};
        dueRefused(Checks.row(1, 2), Checks.row(2, 3), true, others);
    }

    private static void applyOfFullRowWithOneOtherNumber() {
        checks.promise(11, "or the row isn't, number by number, what the script keeps and erases");
        int[] other = Checks.countUp(0, 120);
        other[119] = 0;
        RowDiffer x = Checks.withRows(Checks.countUp(0, 119), Checks.countUp(0, 120), other);
        x.diff(1, 0);
        checks.dueThrow("the last of 120 is another", Checks.STATE, () -> x.apply(2, 3, false));
        checks.dueThrow("the last of 120 is missing", Checks.STATE, () -> x.apply(0, 3, false));
        checks.dueThrow("one too many, backwards", Checks.STATE, () -> x.apply(1, 3, true));
        checks.due("into stays", x.length(3), 0);
        checks.due("the right one", x.apply(1, 3, false), 119);
    }

    private static void applyOntoItself() {
        checks.promise(11, "(Into may be the row itself.)");
        RowDiffer x = Checks.withRows(Checks.row(1, 2, 3), Checks.row(4, 3, 5, 6));
        x.diff(0, 1);
        checks.due("forwards", x.apply(0, 0, false), 4);
        checks.due("row then", Checks.rowText(x, 0), "4 3 5 6");
        checks.dueThrow("forwards a second time", Checks.STATE, () -> x.apply(0, 0, false));
        checks.due("backwards", x.apply(0, 0, true), 3);
        checks.due("row then", Checks.rowText(x, 0), "1 2 3");
        checks.dueThrow("backwards a second time", Checks.STATE, () -> x.apply(0, 0, true));
        checks.due("row then", Checks.rowText(x, 0), "1 2 3");
    }

    private static void applyOfNoSuchRow() {
        checks.promise(11, "IndexOutOfBoundsException: there is no such row");
        RowDiffer x = Checks.withRows(Checks.row(1), Checks.row(2));
        x.diff(0, 1);
        String before = Checks.stateText(x);
        for (int row : Checks.NO_ROWS) {
            checks.dueThrow("row " + row, Checks.INDEX, () -> x.apply(row, 0, false));
            checks.dueThrow("into " + row, Checks.INDEX, () -> x.apply(0, row, false));
            checks.dueThrow("row and into " + row, Checks.INDEX, () -> x.apply(row, row, true));
        }
        checks.due("what throws changes nothing", Checks.stateText(x), before);
        checks.due("into the last row", x.apply(0, 7, false), 1);
        checks.due("of the last row", x.apply(7, 6, true), 1);
    }

    private static void applyIndexComesFirst() {
        checks.promise(11, "Of several exceptions that apply the first one listed is thrown");
        RowDiffer x = Checks.withRows(Checks.row(1), Checks.row(2));
        for (int row : Checks.NO_ROWS) {
            checks.dueThrow("no script and row " + row, Checks.INDEX, () -> x.apply(row, 0, false));
            checks.dueThrow("no script and into " + row, Checks.INDEX, () -> x.apply(0, row, true));
        }
        x.diff(0, 1);
        for (int row : Checks.NO_ROWS) {
            checks.dueThrow("another row and into " + row, Checks.INDEX, () -> x.apply(1, row, false));
            checks.dueThrow("another row, backwards, and into " + row, Checks.INDEX, () -> x.apply(0, row, true));
        }
    }
}
