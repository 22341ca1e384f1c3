/** Promises 1 to 5: a new object, add, wipe, length, number. */
public final class RowsTest {
    private static final int[] NO_ROWS = {-1, 8, 9, Integer.MIN_VALUE, Integer.MAX_VALUE};
    private static final Checks checks = new Checks();

    public static void main(String[] args) {
        newObjectIsEmpty();
        objectsShareNothing();
        addPutsBehind();
        addRefusesNoRow();
        addRefusesFullRow();
        wipeTakesAway();
        lengthOfRows();
        numberOfRows();
        checks.end();
    }

    private static void newObjectIsEmpty() {
        RowDiffer x = new RowDiffer();
        for (int row = 0; row < 8; row++) {
            checks.due("1: length of row " + row, x.length(row), 0);
        }
        checks.due("1: steps", x.steps(), -1);
        checks.due("1: hunks", x.hunks(), -1);
        checks.due("1: conflicts", x.conflicts(), -1);
    }

    private static void objectsShareNothing() {
        RowDiffer x = Checks.withRows(Checks.row(1, 2));
        x.diff(0, 1);
        x.merge(0, 0, 1);
        RowDiffer y = new RowDiffer();
        checks.due("1: length in another object", y.length(0), 0);
        checks.due("1: steps in another object", y.steps(), -1);
        checks.due("1: conflicts in another object", y.conflicts(), -1);
    }

    private static void addPutsBehind() {
        RowDiffer x = new RowDiffer();
        checks.due("2: first", x.add(0, 5), 1);
        checks.due("2: second", x.add(0, Integer.MIN_VALUE), 2);
        checks.due("2: third", x.add(0, Integer.MAX_VALUE), 3);
        checks.due("2: last row", x.add(7, -1), 1);
        checks.due("2: row 0", Checks.rowText(x, 0), "5 -2147483648 2147483647");
        checks.due("2: row 7", Checks.rowText(x, 7), "-1");
        checks.due("2: row 1", Checks.rowText(x, 1), "");
    }

    private static void addRefusesNoRow() {
        RowDiffer x = new RowDiffer();
        for (int row : NO_ROWS) {
            checks.due("2: add to row " + row, x.add(row, 4), -1);
        }
        for (int row = 0; row < 8; row++) {
            checks.due("2: length behind refused add", x.length(row), 0);
        }
    }

    private static void addRefusesFullRow() {
        RowDiffer x = new RowDiffer();
        for (int k = 0; k < 120; k++) {
            checks.due("2: add " + k, x.add(3, k), k + 1);
        }
        checks.due("2: add the 121st", x.add(3, 999), -1);
        checks.due("2: add the 121st again", x.add(3, 999), -1);
        checks.due("2: a full row is as before", Checks.rowText(x, 3), Checks.rowText(Checks.countUp(0, 120)));
        checks.due("2: another row is not full", x.add(4, 999), 1);
    }

    private static void wipeTakesAway() {
        RowDiffer x = Checks.withRows(Checks.row(1, 2, 3), Checks.row(4, 5));
        checks.due("3: wipe", x.wipe(0), 3);
        checks.due("3: length then", x.length(0), 0);
        checks.due("3: wipe again", x.wipe(0), 0);
        checks.due("3: other row", Checks.rowText(x, 1), "4 5");
        checks.due("3: add then", x.add(0, 6), 1);
        checks.due("3: row then", Checks.rowText(x, 0), "6");
        for (int row : NO_ROWS) {
            checks.due("3: wipe of row " + row, x.wipe(row), -1);
        }
        checks.due("3: rows behind refused wipes", Checks.rowText(x, 0) + "/" + Checks.rowText(x, 1), "6/4 5");
        Checks.fill(x, 2, Checks.countUp(0, 120));
        checks.due("3: wipe of a full row", x.wipe(2), 120);
        checks.due("3: a full row takes numbers then", x.add(2, 1), 1);
    }

    private static void lengthOfRows() {
        RowDiffer x = Checks.withRows(Checks.row(1, 2, 3), Checks.row(4), Checks.countUp(0, 120));
        checks.due("4: three", x.length(0), 3);
        checks.due("4: one", x.length(1), 1);
        checks.due("4: full", x.length(2), 120);
        checks.due("4: none", x.length(7), 0);
        for (int row : NO_ROWS) {
            checks.due("4: length of row " + row, x.length(row), -1);
        }
    }

    private static void numberOfRows() {
        RowDiffer x = Checks.withRows(Checks.row(11, 12, 13), Checks.row(14), Checks.countUp(0, 120));
        checks.due("5: first", x.number(0, 0), 11);
        checks.due("5: last", x.number(0, 2), 13);
        checks.due("5: other row", x.number(1, 0), 14);
        checks.due("5: last of a full row", x.number(2, 119), 119);
        checks.dueThrow("5: place 120", Checks.INDEX, () -> x.number(2, 120));
        checks.dueThrow("5: place behind the end", Checks.INDEX, () -> x.number(0, 3));
        checks.dueThrow("5: place -1", Checks.INDEX, () -> x.number(0, -1));
        checks.dueThrow("5: greatest place", Checks.INDEX, () -> x.number(0, Integer.MAX_VALUE));
        checks.dueThrow("5: least place", Checks.INDEX, () -> x.number(0, Integer.MIN_VALUE));
        checks.dueThrow("5: empty row", Checks.INDEX, () -> x.number(3, 0));
        for (int row : NO_ROWS) {
            checks.dueThrow("5: number of row " + row, Checks.INDEX, () -> x.number(row, 0));
        }
        x.wipe(0);
        checks.dueThrow("5: place of a wiped row", Checks.INDEX, () -> x.number(0, 0));
    }
}
