/** Promises 1 to 5: a new object, add, wipe, length, number. Their boundary cases stand in RowsEdgesTest. */
public final class RowsTest {
    private static final Checks checks = new Checks();

    public static void main(String[] args) {
        checks.run(RowsTest::objectsShareNothing);
        checks.run(RowsTest::addPutsBehind);
        checks.run(RowsTest::wipeTakesAway);
        checks.run(RowsTest::lengthOfRows);
        checks.run(RowsTest::numberOfRows);
        checks.end();
    }

    private static void objectsShareNothing() {
        RowDiffer x = Checks.withRows(Checks.row(1, 2));
        x.diff(0, 1);
        x.merge(0, 0, 1);
        RowDiffer y = new RowDiffer();
        checks.due("1: length in another object", y.length(0), 0);
        checks.due("1: steps in another object", y.steps(), -1);
        checks.due("1: conflicts in another object", y.conflicts(), -1);
    }

    private static void addPutsBehind() {
        RowDiffer x = new RowDiffer();
        checks.due("2: first", x.add(0, 5), 1);
        checks.due("2: second", x.add(0, Integer.MIN_VALUE), 2);
        checks.due("2: third", x.add(0, Integer.MAX_VALUE), 3);
        checks.due("2: last row", x.add(7, -1), 1);
        checks.due("2: row 0", Checks.rowText(x, 0), "5 -2147483648 2147483647");
        checks.due("2: row 7", Checks.rowText(x, 7), "-1");
        checks.due("2: row 1", Checks.rowText(x, 1), "");
    }

    private static void wipeTakesAway() {
        RowDiffer x = Checks.withRows(Checks.row(1, 2, 3), Checks.row(4, 5));
        checks.due("3: wipe", x.wipe(0), 3);
        checks.due("3: length then", x.length(0), 0);
        checks.due("3: wipe again", x.wipe(0), 0);
        checks.due("3: other row", Checks.rowText(x, 1), "4 5");
        checks.due("3: add then", x.add(0, 6), 1);
        checks.due("3: row then", Checks.rowText(x, 0), "6");
    }

    private static void lengthOfRows() {
        RowDiffer x = Checks.withRows(Checks.row(1, 2, 3), Checks.row(4));
        checks.due("4: three", x.length(0), 3);
        checks.due("4: one", x.length(1), 1);
    }

    private static void numberOfRows() {
        RowDiffer x = Checks.withRows(Checks.row(11, 12, 13), Checks.row(14));
        checks.due("5: first", x.number(0, 0), 11);
        checks.due("5: second", x.number(0, 1), 12);
        checks.due("5: last", x.number(0, 2), 13);
        checks.due("5: other row", x.number(1, 0), 14);
    }
}
