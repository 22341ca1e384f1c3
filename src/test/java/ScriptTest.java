/** Promises 6 to 11: diff, steps, step, hunks, hunk, apply. Their boundary cases stand in ScriptEdgesTest. */
public final class ScriptTest {
    private static final int[] BEFORE = {97, 98, 99, 97, 98, 98, 97};
    private static final int[] AFTER = {99, 98, 97, 98, 97, 99};
    private static final Checks checks = new Checks();

    public static void main(String[] args) {
        checks.run(ScriptTest::scriptsOfSmallRows);
        checks.run(ScriptTest::stepsAreCounted);
        checks.run(ScriptTest::stepProperties);
        checks.run(ScriptTest::hunksAreCounted);
        checks.run(ScriptTest::hunkProperties);
        checks.run(ScriptTest::applyBothWays);
        checks.end();
    }

    private static void dueScript(int[] a, int[] b, int cost, String script, String hunks) {
        RowDiffer x = Checks.withRows(a, b);
        String name = Checks.rowText(a) + " to " + Checks.rowText(b);
        checks.promise(6, "Makes the script from row a to row b (which may be the same): its cost");
        checks.due("cost of " + name, x.diff(0, 1), cost);
        checks.promise(8, "Of step k of it");
        checks.due("script of " + name, Checks.scriptText(x), script);
        checks.promise(10, "Of hunk k");
        checks.due("hunks of " + name, Checks.hunksText(x), hunks);
    }

    private static void scriptsOfSmallRows() {
        dueScript(Checks.row(), Checks.row(), 0, "", "");
        dueScript(Checks.row(1, 2), Checks.row(), 2, "E0,0:1 E1,0:2", "0,0-2+0");
        dueScript(Checks.row(), Checks.row(1, 2), 2, "I0,0:1 I0,1:2", "0,0-0+2");
        // Where both are as good, ERASE comes first.
        dueScript(Checks.row(1), Checks.row(2), 2, "E0,0:1 I1,0:2", "0,0-1+1");
        dueScript(Checks.row(1, 2), Checks.row(2, 1), 2, "E0,0:1 K1,0:2 I2,1:1", "0,0-1+0 2,1-0+1");
        // ERASE would cost more, so INSERT comes though something is left to erase.
        dueScript(Checks.row(1), Checks.row(2, 1), 1, "I0,0:2 K0,1:1", "0,0-0+1");
        dueScript(Checks.row(1, 2), Checks.row(3, 1, 2), 1, "I0,0:3 K0,1:1 K1,2:2", "0,0-0+1");
        // KEEP comes as soon as it can.
        dueScript(Checks.row(1), Checks.row(1, 1), 1, "K0,0:1 I1,1:1", "1,1-0+1");
        dueScript(Checks.row(1, 1), Checks.row(1), 1, "K0,0:1 E1,1:1", "1,1-1+0");
        dueScript(Checks.row(1, 2, 1), Checks.row(1), 2, "K0,0:1 E1,1:2 E2,1:1", "1,1-2+0");
        // One hunk that erases and inserts.
        dueScript(Checks.row(1, 2, 3), Checks.row(4, 5), 5, "E0,0:1 E1,0:2 E2,0:3 I3,0:4 I3,1:5", "0,0-3+2");
        dueScript(Checks.row(7, 1), Checks.row(8, 7), 2, "I0,0:8 K0,1:7 E1,2:1", "0,0-0+1 1,2-1+0");
        dueScript(Checks.row(Integer.MIN_VALUE, 0), Checks.row(Integer.MAX_VALUE, 0), 2,
                "E0,0:-2147483648 I1,0:2147483647 K1,1:0", "0,0-1+1");
        dueScript(BEFORE, AFTER, 5, "E0,0:97 E1,0:98 K2,0:99 E3,1:97 K4,1:98 I5,2:97 K5,3:98 K6,4:97 I7,5:99",
                "0,0-2+0 3,1-1+0 5,2-0+1 7,5-0+1");
    }

    private static void stepsAreCounted() {
        checks.promise(7, "How many steps the script has that was made last; -1 if none was");
        RowDiffer x = Checks.withRows(BEFORE, AFTER);
        checks.due("no script", x.steps(), -1);
        x.diff(0, 1);
        checks.due("a script", x.steps(), 9);
        x.diff(2, 3);
        checks.due("the empty script", x.steps(), 0);
        x.diff(1, 1);
        checks.due("the last one counts", x.steps(), 6);
    }

    private static void stepProperties() {
        checks.promise(8, "0 KEEP, 1 ERASE, 2 INSERT (what = 0), i (1) and j (2) before it, the number (3)");
        RowDiffer x = Checks.withRows(Checks.row(5, 6), Checks.row(5, 7));
        x.diff(0, 1);
        checks.dueProperties("step 0", what -> x.step(0, what), 0, 0, 0, 5);
        checks.dueProperties("step 1", what -> x.step(1, what), 1, 1, 1, 6);
        checks.dueProperties("step 2", what -> x.step(2, what), 2, 2, 1, 7);
    }

    private static void hunksAreCounted() {
        checks.promise(9, "How many hunks it has; -1 if there is no script");
        RowDiffer x = Checks.withRows(BEFORE, AFTER);
        checks.due("no script", x.hunks(), -1);
        x.diff(0, 1);
        checks.due("a script", x.hunks(), 4);
        x.diff(2, 3);
        checks.due("the empty script", x.hunks(), 0);
        x.diff(0, 2);
        checks.due("one hunk of all", x.hunks(), 1);
    }

    private static void hunkProperties() {
        checks.promise(10, "i (what = 0) and j (1) before it, how many it erases (2), how many it inserts (3)");
        RowDiffer x = Checks.withRows(Checks.row(1, 2, 3, 4, 5), Checks.row(1, 7, 8, 9, 4, 6));
        x.diff(0, 1);
        checks.due("two hunks", x.hunks(), 2);
        checks.dueProperties("hunk 0", what -> x.hunk(0, what), 1, 1, 2, 3);
        checks.dueProperties("hunk 1", what -> x.hunk(1, what), 4, 5, 1, 1);
    }

    private static void applyBothWays() {
        checks.promise(11, "Row into becomes what the script makes of a row (back = false),"
                + " or that of which it makes a row (back = true)");
        RowDiffer x = Checks.withRows(BEFORE, AFTER, Checks.countUp(0, 9), Checks.row(1));
        x.diff(0, 1);
        checks.due("forwards", x.apply(0, 2, false), 6);
        checks.due("row then", Checks.rowText(x, 2), Checks.rowText(AFTER));
        checks.due("backwards", x.apply(1, 3, true), 7);
        checks.due("row then", Checks.rowText(x, 3), Checks.rowText(BEFORE));
        checks.due("source stays", Checks.rowText(x, 0), Checks.rowText(BEFORE));
        checks.due("another row with the same numbers", x.apply(3, 4, false), 6);
        checks.due("script stays", x.steps(), 9);
        x.diff(6, 7);
        checks.due("the empty script", x.apply(6, 0, false), 0);
        checks.due("row then", x.length(0), 0);
    }
}
