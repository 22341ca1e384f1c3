/** Promises 6 to 11: diff, steps, step, hunks, hunk, apply. */
public final class ScriptTest {
    private static final int[] BEFORE = {97, 98, 99, 97, 98, 98, 97};
    private static final int[] AFTER = {99, 98, 97, 98, 97, 99};
    private static final int[] NO_ROWS = {-1, 8, Integer.MIN_VALUE, Integer.MAX_VALUE};
    private static final int[] NO_PROPERTIES = {-1, 4, Integer.MIN_VALUE, Integer.MAX_VALUE};
    private static final Checks checks = new Checks();

    public static void main(String[] args) {
        scriptsOfSmallRows();
        scriptOfRowItself();
        costLimit();
        longestScript();
        choiceFarBehind();
        diffOfNoRow();
        scriptStaysWhenRowsChange();
        stepsAreCounted();
        stepProperties();
        stepRefuses();
        hunksAreCounted();
        hunkProperties();
        hunkRefuses();
        applyBothWays();
        applyOntoItself();
        applyToFullRow();
        applyRefusesOtherRows();
        applyWithoutScript();
        applyOfNoRow();
        checks.end();
    }

    private static void dueScript(int[] a, int[] b, int cost, String script, String hunks) {
        RowDiffer x = Checks.withRows(a, b);
        String name = Checks.rowText(a) + " to " + Checks.rowText(b);
        checks.due("6: cost of " + name, x.diff(0, 1), cost);
        checks.due("6, 8: script of " + name, Checks.scriptText(x), script);
        checks.due("9, 10: hunks of " + name, Checks.hunksText(x), hunks);
    }

    private static void scriptsOfSmallRows() {
        dueScript(Checks.row(), Checks.row(), 0, "", "");
        dueScript(Checks.row(1, 2), Checks.row(), 2, "E0,0:1 E1,0:2", "0,0-2+0");
        dueScript(Checks.row(), Checks.row(1, 2), 2, "I0,0:1 I0,1:2", "0,0-0+2");
        // Where both are as good, ERASE comes first.
        dueScript(Checks.row(1), Checks.row(2), 2, "E0,0:1 I1,0:2", "0,0-1+1");
        dueScript(Checks.row(1, 2), Checks.row(2, 1), 2, "E0,0:1 K1,0:2 I2,1:1", "0,0-1+0 2,1-0+1");
        // ERASE would cost more, so INSERT comes though something is left to erase.
        dueScript(Checks.row(1), Checks.row(2, 1), 1, "I0,0:2 K0,1:1", "0,0-0+1");
        dueScript(Checks.row(1, 2), Checks.row(3, 1, 2), 1, "I0,0:3 K0,1:1 K1,2:2", "0,0-0+1");
        // KEEP comes as soon as it can.
        dueScript(Checks.row(1), Checks.row(1, 1), 1, "K0,0:1 I1,1:1", "1,1-0+1");
        dueScript(Checks.row(1, 1), Checks.row(1), 1, "K0,0:1 E1,1:1", "1,1-1+0");
        dueScript(Checks.row(1, 2, 1), Checks.row(1), 2, "K0,0:1 E1,1:2 E2,1:1", "1,1-2+0");
        // One hunk that erases and inserts.
        dueScript(Checks.row(1, 2, 3), Checks.row(4, 5), 5, "E0,0:1 E1,0:2 E2,0:3 I3,0:4 I3,1:5", "0,0-3+2");
        dueScript(Checks.row(7, 1), Checks.row(8, 7), 2, "I0,0:8 K0,1:7 E1,2:1", "0,0-0+1 1,2-1+0");
        dueScript(Checks.row(Integer.MIN_VALUE, 0), Checks.row(Integer.MAX_VALUE, 0), 2,
                "E0,0:-2147483648 I1,0:2147483647 K1,1:0", "0,0-1+1");
        dueScript(BEFORE, AFTER, 5, "E0,0:97 E1,0:98 K2,0:99 E3,1:97 K4,1:98 I5,2:97 K5,3:98 K6,4:97 I7,5:99",
                "0,0-2+0 3,1-1+0 5,2-0+1 7,5-0+1");
    }

    private static void scriptOfRowItself() {
        RowDiffer x = Checks.withRows(Checks.row(4, 4, 5));
        checks.due("6: row itself", x.diff(0, 0), 0);
        checks.due("6: its script", Checks.scriptText(x), "K0,0:4 K1,1:4 K2,2:5");
        checks.due("9: its hunks", x.hunks(), 0);
    }

    private static void costLimit() {
        RowDiffer x = Checks.withRows(Checks.countUp(0, 100), Checks.row(), Checks.countUp(0, 101), Checks.row(0));
        checks.due("6: cost 100 by erasing", x.diff(0, 1), 100);
        checks.due("6: cost 100 by inserting", x.diff(1, 0), 100);
        checks.due("6: cost 100 with a KEEP", x.diff(2, 3), 100);
        checks.due("7: steps then", x.steps(), 101);
        checks.dueThrow("6: cost 101 by erasing", Checks.STATE, () -> x.diff(2, 1));
        checks.dueThrow("6: cost 101 by inserting", Checks.STATE, () -> x.diff(1, 2));
        checks.due("6: the script stays", x.steps() + " " + x.step(0, 0) + " " + x.step(1, 0), "101 0 1");
        checks.due("9: its hunks stay", Checks.hunksText(x), "1,1-100+0");
        RowDiffer y = Checks.withRows(Checks.countUp(0, 50), Checks.countUp(100, 50), Checks.countUp(100, 51));
        checks.due("6: cost 50 and 50", y.diff(0, 1), 100);
        checks.dueThrow("6: cost 50 and 51", Checks.STATE, () -> y.diff(0, 2));
        checks.dueThrow("6: cost 51 and 50", Checks.STATE, () -> y.diff(2, 0));
        RowDiffer z = Checks.withRows(Checks.countUp(0, 120), Checks.countUp(200, 120));
        checks.dueThrow("6: cost 240", Checks.STATE, () -> z.diff(0, 1));
        checks.due("6: no script is made by it", z.steps() + " " + z.hunks(), "-1 -1");
    }

    private static void longestScript() {
        int[] a = Checks.countUp(0, 120);
        int[] b = Checks.countUp(0, 120);
        for (int k = 0; k < 50; k++) {
            b[2 * k] = 1000 + k;
        }
        RowDiffer x = Checks.withRows(a, b);
        checks.due("6: cost of the longest script", x.diff(0, 1), 100);
        checks.due("7: its steps", x.steps(), 170);
        checks.due("9: its hunks", x.hunks(), 50);
        checks.due("10: its last hunk", x.hunk(49, 0) + " " + x.hunk(49, 1) + " " + x.hunk(49, 2) + " " + x.hunk(49, 3),
                "98 98 1 1");
        checks.due("8: its last step", x.step(169, 0) + " " + x.step(169, 1) + " " + x.step(169, 3), "0 119 119");
        checks.due("11: what it makes", x.apply(0, 2, false), 120);
        checks.due("11: its numbers", Checks.rowText(x, 2), Checks.rowText(b));
    }

    /** The choice at the last places is another one than that between the last place of a and an early one of b. */
    private static void choiceFarBehind() {
        int[] a = Checks.countUp(0, 120);
        int[] b = Checks.countUp(0, 120);
        a[119] = 80;
        b[119] = 1000;
        RowDiffer x = Checks.withRows(a, b);
        checks.due("6: cost of a choice far behind", x.diff(0, 1), 2);
        checks.due("8: ERASE first", x.step(119, 0) + " " + x.step(119, 3), "1 80");
        checks.due("8: then INSERT", x.step(120, 0) + " " + x.step(120, 3), "2 1000");
    }

    private static void diffOfNoRow() {
        RowDiffer x = Checks.withRows(Checks.row(1), Checks.row(2));
        x.diff(0, 1);
        for (int row : NO_ROWS) {
            checks.dueThrow("6: diff from row " + row, Checks.INDEX, () -> x.diff(row, 0));
            checks.dueThrow("6: diff to row " + row, Checks.INDEX, () -> x.diff(0, row));
            checks.dueThrow("6: diff of row " + row, Checks.INDEX, () -> x.diff(row, row));
        }
        checks.due("6: the script stays", Checks.scriptText(x), "E0,0:1 I1,0:2");
        checks.due("6: last row", x.diff(7, 0), 1);
    }

    private static void scriptStaysWhenRowsChange() {
        RowDiffer x = Checks.withRows(Checks.row(1, 2), Checks.row(2, 3));
        x.diff(0, 1);
        Checks.fill(x, 0, 8, 8, 8);
        x.wipe(1);
        x.merge(0, 1, 1);
        checks.due("6, 12: script behind changes", Checks.scriptText(x), "E0,0:1 K1,0:2 I2,1:3");
        checks.due("9: hunks behind changes", Checks.hunksText(x), "0,0-1+0 2,1-0+1");
    }

    private static void stepsAreCounted() {
        RowDiffer x = Checks.withRows(BEFORE, AFTER);
        checks.due("7: no script", x.steps(), -1);
        x.diff(0, 1);
        checks.due("7: a script", x.steps(), 9);
        x.diff(2, 3);
        checks.due("7: the empty script", x.steps(), 0);
        x.diff(1, 1);
        checks.due("7: the last one counts", x.steps(), 6);
    }

    private static void stepProperties() {
        RowDiffer x = Checks.withRows(Checks.row(5, 6), Checks.row(5, 7));
        x.diff(0, 1);
        int[][] due = {{0, 0, 0, 5}, {1, 1, 1, 6}, {2, 2, 1, 7}};
        for (int k = 0; k < due.length; k++) {
            for (int what = 0; what < 4; what++) {
                checks.due("8: step " + k + ", " + what, x.step(k, what), due[k][what]);
            }
        }
    }

    private static void stepRefuses() {
        RowDiffer x = Checks.withRows(Checks.row(5, 6), Checks.row(5, 7));
        checks.dueThrow("8: no script", Checks.INDEX, () -> x.step(0, 0));
        checks.dueThrow("8: no script, k = -1", Checks.INDEX, () -> x.step(-1, 0));
        checks.dueThrow("8: no script and no such what", Checks.INDEX, () -> x.step(0, 4));
        x.diff(0, 1);
        for (int k : Checks.row(-1, 3, Integer.MIN_VALUE, Integer.MAX_VALUE)) {
            checks.dueThrow("8: step " + k, Checks.INDEX, () -> x.step(k, 0));
            checks.dueThrow("8: step and what, index first, " + k, Checks.INDEX, () -> x.step(k, 4));
        }
        for (int what : NO_PROPERTIES) {
            checks.dueThrow("8: what " + what, Checks.ARGUMENT, () -> x.step(2, what));
        }
        x.diff(2, 3);
        checks.dueThrow("8: step of an empty script", Checks.INDEX, () -> x.step(0, 0));
    }

    private static void hunksAreCounted() {
        RowDiffer x = Checks.withRows(BEFORE, AFTER);
        checks.due("9: no script", x.hunks(), -1);
        x.diff(0, 1);
        checks.due("9: a script", x.hunks(), 4);
        x.diff(2, 3);
        checks.due("9: the empty script", x.hunks(), 0);
        x.diff(0, 2);
        checks.due("9: one hunk of all", x.hunks(), 1);
    }

    private static void hunkProperties() {
        RowDiffer x = Checks.withRows(Checks.row(1, 2, 3, 4, 5), Checks.row(1, 7, 8, 9, 4, 6));
        x.diff(0, 1);
        int[][] due = {{1, 1, 2, 3}, {4, 5, 1, 1}};
        checks.due("9: two hunks", x.hunks(), 2);
        for (int k = 0; k < due.length; k++) {
            for (int what = 0; what < 4; what++) {
                checks.due("10: hunk " + k + ", " + what, x.hunk(k, what), due[k][what]);
            }
        }
    }

    private static void hunkRefuses() {
        RowDiffer x = Checks.withRows(Checks.row(5, 6), Checks.row(5, 7));
        checks.dueThrow("10: no script", Checks.INDEX, () -> x.hunk(0, 0));
        checks.dueThrow("10: no script, k = -1", Checks.INDEX, () -> x.hunk(-1, 0));
        checks.dueThrow("10: no script and no such what", Checks.INDEX, () -> x.hunk(0, 4));
        x.diff(0, 1);
        for (int k : Checks.row(-1, 1, Integer.MIN_VALUE, Integer.MAX_VALUE)) {
            checks.dueThrow("10: hunk " + k, Checks.INDEX, () -> x.hunk(k, 0));
            checks.dueThrow("10: hunk and what, index first, " + k, Checks.INDEX, () -> x.hunk(k, 4));
        }
        for (int what : NO_PROPERTIES) {
            checks.dueThrow("10: what " + what, Checks.ARGUMENT, () -> x.hunk(0, what));
        }
        x.diff(0, 0);
        checks.dueThrow("10: hunk of a script of KEEPs", Checks.INDEX, () -> x.hunk(0, 0));
    }

    private static void applyBothWays() {
        RowDiffer x = Checks.withRows(BEFORE, AFTER, Checks.countUp(0, 9), Checks.row(1));
        x.diff(0, 1);
        checks.due("11: forwards", x.apply(0, 2, false), 6);
        checks.due("11: row then", Checks.rowText(x, 2), Checks.rowText(AFTER));
        checks.due("11: backwards", x.apply(1, 3, true), 7);
        checks.due("11: row then", Checks.rowText(x, 3), Checks.rowText(BEFORE));
        checks.due("11: source stays", Checks.rowText(x, 0), Checks.rowText(BEFORE));
        checks.due("11: another row with the same numbers", x.apply(3, 4, false), 6);
        checks.due("11: script stays", x.steps(), 9);
        x.diff(6, 7);
        checks.due("11: the empty script", x.apply(6, 0, false), 0);
        checks.due("11: row then", x.length(0), 0);
    }

    private static void applyOntoItself() {
        RowDiffer x = Checks.withRows(BEFORE, AFTER);
        x.diff(0, 1);
        checks.due("11: forwards onto itself", x.apply(0, 0, false), 6);
        checks.due("11: row then", Checks.rowText(x, 0), Checks.rowText(AFTER));
        checks.dueThrow("11: forwards a second time", Checks.STATE, () -> x.apply(0, 0, false));
        checks.due("11: backwards onto itself", x.apply(0, 0, true), 7);
        checks.due("11: row then", Checks.rowText(x, 0), Checks.rowText(BEFORE));
        checks.dueThrow("11: backwards a second time", Checks.STATE, () -> x.apply(0, 0, true));
    }

    private static void applyToFullRow() {
        RowDiffer x = Checks.withRows(Checks.countUp(0, 20), Checks.countUp(0, 120));
        checks.due("6: cost", x.diff(0, 1), 100);
        checks.due("11: up to 120", x.apply(0, 0, false), 120);
        checks.due("11: row then", Checks.rowText(x, 0), Checks.rowText(Checks.countUp(0, 120)));
        checks.due("11: down to 20", x.apply(1, 1, true), 20);
        checks.due("11: row then", Checks.rowText(x, 1), Checks.rowText(Checks.countUp(0, 20)));
    }

    private static void applyRefusesOtherRows() {
        RowDiffer x = Checks.withRows(Checks.row(1, 2), Checks.row(2, 3));
        x.diff(0, 1);
        int[][] others = {{1}, {2}, {1, 2, 3}, {1, 3}, {3, 2}, {}, {2, 3}};
        for (int[] other : others) {
            Checks.fill(x, 2, other);
            Checks.fill(x, 3, 9);
            String name = Checks.rowText(other);
            checks.dueThrow("11: forwards of " + name, Checks.STATE, () -> x.apply(2, 3, false));
            checks.due("11: into stays", Checks.rowText(x, 3), "9");
            checks.due("11: the row stays", Checks.rowText(x, 2), name);
        }
        int[][] backOthers = {{2}, {2, 3, 3}, {3, 2}, {2, 4}, {}, {1, 2}};
        for (int[] other : backOthers) {
            Checks.fill(x, 2, other);
            checks.dueThrow("11: backwards of " + Checks.rowText(other), Checks.STATE, () -> x.apply(2, 3, true));
        }
        checks.due("11: the script stays", x.apply(0, 3, false), 2);
    }

    private static void applyWithoutScript() {
        RowDiffer x = new RowDiffer();
        checks.dueThrow("11: no script", Checks.STATE, () -> x.apply(0, 1, false));
        checks.dueThrow("11: no script, backwards", Checks.STATE, () -> x.apply(0, 1, true));
        x.merge(0, 1, 2);
        checks.dueThrow("11, 12: a merge makes no script", Checks.STATE, () -> x.apply(0, 1, false));
        checks.due("7, 12: steps behind a merge", x.steps(), -1);
    }

    private static void applyOfNoRow() {
        RowDiffer x = Checks.withRows(Checks.row(1));
        for (int row : NO_ROWS) {
            checks.dueThrow("11: no script and row " + row, Checks.INDEX, () -> x.apply(row, 0, false));
            checks.dueThrow("11: no script and into " + row, Checks.INDEX, () -> x.apply(0, row, true));
        }
        x.diff(0, 1);
        for (int row : NO_ROWS) {
            checks.dueThrow("11: row " + row, Checks.INDEX, () -> x.apply(row, 0, false));
            checks.dueThrow("11: into " + row, Checks.INDEX, () -> x.apply(0, row, false));
            checks.dueThrow("11: another row, into " + row, Checks.INDEX, () -> x.apply(0, row, true));
        }
        checks.due("11: rows stay", Checks.rowText(x, 0), "1");
    }
}
