/** The boundary cases of promises 1 to 5, a method for each sentence that names one. */
public final class RowsEdgesTest {
    private static final int[] EXTREMES = {Integer.MIN_VALUE, Integer.MAX_VALUE, 0, -1, 256, 65536};
    private static final Checks checks = new Checks();

    public static void main(String[] args) {
        checks.run(RowsEdgesTest::newRowsHaveNoNumbers);
        checks.run(RowsEdgesTest::newObjectHasNoScript);
        checks.run(RowsEdgesTest::newObjectHasNoMerge);
        checks.run(RowsEdgesTest::addToFirstAndLastRow);
        checks.run(RowsEdgesTest::addOfEveryNumber);
        checks.run(RowsEdgesTest::addToNoSuchRow);
        checks.run(RowsEdgesTest::addTheLastThatFits);
        checks.run(RowsEdgesTest::addToFullRow);
        checks.run(RowsEdgesTest::addToRowMadeFull);
        checks.run(RowsEdgesTest::addToRowNoLongerFull);
        checks.run(RowsEdgesTest::addUpToTheLastCall);
        checks.run(RowsEdgesTest::wipeOfEmptyRow);
        checks.run(RowsEdgesTest::wipeOfFullRow);
        checks.run(RowsEdgesTest::wipeOfNoSuchRow);
        checks.run(RowsEdgesTest::lengthOfEmptyAndFullRow);
        checks.run(RowsEdgesTest::lengthOfNoSuchRow);
        checks.run(RowsEdgesTest::numberAtFirstAndLastPlace);
        checks.run(RowsEdgesTest::numberOfNoSuchRow);
        checks.run(RowsEdgesTest::numberAtNoSuchPlace);
        checks.run(RowsEdgesTest::numberOfEmptyRow);
        checks.run(RowsEdgesTest::numberOfRowThatWasLonger);
        checks.end();
    }

    private static void newRowsHaveNoNumbers() {
        checks.promise(1, "Rows without numbers");
        RowDiffer x = new RowDiffer();
        for (int row = 0; row < 8; row++) {
            int asked = row;
            checks.due("length of row " + row, x.length(row), 0);
            checks.dueThrow("number at place 0 of row " + row, Checks.INDEX, () -> x.number(asked, 0));
            checks.due("wipe of row " + row, x.wipe(row), 0);
            checks.due("first add to row " + row, x.add(row, 5), 1);
        }
    }

    private static void newObjectHasNoScript() {
        checks.promise(1, "no script");
        RowDiffer x = new RowDiffer();
        checks.due("steps", x.steps(), -1);
        checks.due("hunks", x.hunks(), -1);
        checks.dueThrow("step 0", Checks.INDEX, () -> x.step(0, 0));
        checks.dueThrow("hunk 0", Checks.INDEX, () -> x.hunk(0, 0));
        checks.dueThrow("apply to an empty row", Checks.STATE, () -> x.apply(0, 1, false));
    }

    private static void newObjectHasNoMerge() {
        checks.promise(1, "no merge");
        RowDiffer x = new RowDiffer();
        checks.due("conflicts", x.conflicts(), -1);
        checks.dueThrow("entry 0", Checks.INDEX, () -> x.entry(0, 0));
        checks.dueThrow("see", Checks.STATE, () -> x.see(0, 0));
    }

    private static void addToFirstAndLastRow() {
        checks.promise(2, "ROWS 0 .. 7 have .. none at first");
        RowDiffer x = new RowDiffer();
        checks.due("to row 0", x.add(0, 5), 1);
        checks.due("to row 7", x.add(7, 6), 1);
        checks.due("rows then", Checks.stateText(x), "5 |  |  |  |  |  |  | 6 | -1 steps  | -1 hunks  |  -1 conflicts");
    }

    private static void addOfEveryNumber() {
        checks.promise(2, "Puts a number behind a row");
        RowDiffer x = new RowDiffer();
        for (int k = 0; k < EXTREMES.length; k++) {
            checks.due("add of " + EXTREMES[k], x.add(0, EXTREMES[k]), k + 1);
        }
        checks.due("row then", Checks.rowText(x, 0), Checks.rowText(EXTREMES));
    }

    private static void addToNoSuchRow() {
        checks.promise(2, "-1, refused, if there is no such row");
        RowDiffer x = Checks.withRows(Checks.row(1));
        String before = Checks.stateText(x);
        for (int row : Checks.NO_ROWS) {
            checks.due("to row " + row, x.add(row, 4), -1);
        }
        checks.due("what is refused changes nothing", Checks.stateText(x), before);
    }

    private static void addTheLastThatFits() {
        checks.promise(2, "ROWS .. have at most 120 numbers each");
        RowDiffer x = Checks.withRows(Checks.countUp(0, 119));
        checks.due("the 120th", x.add(0, 7), 120);
        checks.due("at its place", x.number(0, 119), 7);
    }

    private static void addToFullRow() {
        checks.promise(2, "-1, refused, if .. it has 120");
        RowDiffer x = Checks.withRows(Checks.countUp(0, 120));
        checks.due("the 121st", x.add(0, 999), -1);
        checks.due("the 121st, the same as the last", x.add(0, 119), -1);
        checks.due("what is refused changes nothing", Checks.rowText(x, 0), Checks.rowText(Checks.countUp(0, 120)));
        checks.due("next row stays empty", x.length(1), 0);
        checks.due("next row is not full", x.add(1, 999), 1);
    }

    private static void addToRowMadeFull() {
        checks.promise(2, "-1, refused, if .. it has 120");
        RowDiffer x = Checks.withRows(Checks.countUp(0, 20), Checks.countUp(0, 120));
        x.diff(0, 1);
        x.merge(0, 1, 1);
        x.apply(0, 2, false);
        x.see(3, 3);
        checks.due("to a row that apply made full", x.add(2, 1), -1);
        checks.due("to a row that see made full", x.add(3, 1), -1);
        checks.due("lengths stay", x.length(2) + " " + x.length(3), "120 120");
    }

    private static void addToRowNoLongerFull() {
        checks.promise(2, "how many it has then");
        RowDiffer x = Checks.withRows(Checks.countUp(0, 20), Checks.countUp(0, 120));
        x.diff(1, 0);
        x.apply(1, 1, false);
        checks.due("to a row that apply made shorter", x.add(1, 77), 21);
        checks.due("its last number", x.number(1, 20), 77);
        x.wipe(1);
        checks.due("to a wiped row", x.add(1, 78), 1);
        checks.due("its first number", x.number(1, 0), 78);
    }

    private static void addUpToTheLastCall() {
        checks.promise(2, "An object is used for at most 512 calls");
        RowDiffer x = new RowDiffer();
        for (int call = 0; call < 512; call++) {
            checks.due("call " + (call + 1), x.add(call % 8, call), call / 8 + 1);
        }
    }

    private static void wipeOfEmptyRow() {
        checks.promise(3, "how many there were");
        RowDiffer x = Checks.withRows(Checks.row(4));
        checks.due("a row that never had one", x.wipe(7), 0);
        checks.due("a row of one", x.wipe(0), 1);
        checks.due("a wiped row", x.wipe(0), 0);
        checks.due("its length", x.length(0), 0);
    }

    private static void wipeOfFullRow() {
        checks.promise(3, "Takes a row's numbers away");
        RowDiffer x = Checks.withRows(Checks.row(1), Checks.countUp(0, 120), Checks.row(2));
        checks.due("a full row", x.wipe(1), 120);
        checks.due("its length", x.length(1), 0);
        checks.due("the rows beside it", Checks.rowText(x, 0) + "/" + Checks.rowText(x, 2), "1/2");
    }

    private static void wipeOfNoSuchRow() {
        checks.promise(3, "-1 if there is no such row");
        RowDiffer x = Checks.withRows(Checks.row(1, 2), Checks.row(3));
        Checks.fill(x, 7, 4);
        String before = Checks.stateText(x);
        for (int row : Checks.NO_ROWS) {
            checks.due("of row " + row, x.wipe(row), -1);
        }
        checks.due("what is refused changes nothing", Checks.stateText(x), before);
    }

    private static void lengthOfEmptyAndFullRow() {
        checks.promise(4, "How many numbers a row has");
        RowDiffer x = Checks.withRows(Checks.countUp(0, 120));
        Checks.fill(x, 7, 4);
        checks.due("a full row", x.length(0), 120);
        checks.due("an empty row", x.length(1), 0);
        checks.due("the last row", x.length(7), 1);
        x.add(0, 1);
        checks.due("behind a refused add", x.length(0), 120);
    }

    private static void lengthOfNoSuchRow() {
        checks.promise(4, "-1 if there is no such row");
        RowDiffer x = Checks.withRows(Checks.row(1, 2));
        for (int row : Checks.NO_ROWS) {
            checks.due("of row " + row, x.length(row), -1);
        }
    }

    private static void numberAtFirstAndLastPlace() {
        checks.promise(5, "ROWS .. have at most 120 numbers each, at places 0, 1, ..");
        RowDiffer x = Checks.withRows(Checks.countUp(500, 120));
        Checks.fill(x, 7, EXTREMES);
        checks.due("first of a full row", x.number(0, 0), 500);
        checks.due("last of a full row", x.number(0, 119), 619);
        for (int place = 0; place < EXTREMES.length; place++) {
            checks.due("place " + place + " of the last row", x.number(7, place), EXTREMES[place]);
        }
    }

    private static void numberOfNoSuchRow() {
        checks.promise(5, "IndexOutOfBoundsException: there is no such row");
        RowDiffer x = Checks.withRows(Checks.row(1, 2));
        for (int row : Checks.NO_ROWS) {
            checks.dueThrow("of row " + row, Checks.INDEX, () -> x.number(row, 0));
            checks.dueThrow("at no place of row " + row, Checks.INDEX, () -> x.number(row, -1));
        }
    }

    private static void numberAtNoSuchPlace() {
        checks.promise(5, "IndexOutOfBoundsException: there is no such .. place");
        RowDiffer x = Checks.withRows(Checks.countUp(0, 120), Checks.row(1, 2));
        for (int place : Checks.outside(120)) {
            checks.dueThrow("place " + place + " of a full row", Checks.INDEX, () -> x.number(0, place));
        }
        for (int place : Checks.outside(2)) {
            checks.dueThrow("place " + place + " of two", Checks.INDEX, () -> x.number(1, place));
        }
        checks.due("length stays", x.length(1), 2);
    }

    private static void numberOfEmptyRow() {
        checks.promise(5, "IndexOutOfBoundsException: there is no such .. place");
        RowDiffer x = Checks.withRows(Checks.row(1));
        for (int place : Checks.outside(0)) {
            checks.dueThrow("place " + place + " of an empty row", Checks.INDEX, () -> x.number(1, place));
        }
    }

    private static void numberOfRowThatWasLonger() {
        checks.promise(5, "IndexOutOfBoundsException: there is no such .. place");
        RowDiffer x = Checks.withRows(Checks.row(1, 2), Checks.row(1), Checks.row(1, 2), Checks.row(1, 2));
        x.diff(0, 1);
        x.merge(0, 1, 1);
        x.apply(0, 0, false);
        x.see(3, 2);
        x.wipe(3);
        checks.dueThrow("a place that apply took away", Checks.INDEX, () -> x.number(0, 1));
        checks.dueThrow("a place that see took away", Checks.INDEX, () -> x.number(2, 1));
        checks.dueThrow("a place that wipe took away", Checks.INDEX, () -> x.number(3, 0));
    }
}
