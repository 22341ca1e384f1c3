/** Promises 1 to 5: a new object, add, wipe, length, number. Their boundary cases stand in RowsEdgesTest. */
public final class RowsTest {
    private static final Checks checks = new Checks();

    public static void main(String[] args) {
        checks.run(RowsTest::objectsShareNothing);
        checks.run(RowsTest::addPutsBehind);
        checks.run(RowsTest::wipeTakesAway);
        checks.run(RowsTest::lengthOfRows);
        checks.run(RowsTest::numberOfRows);
        checks.end();
    }

    private static void objectsShareNothing() {
        checks.promise(1, "Rows without numbers; no script, no merge");
        RowDiffer x = Checks.withRows(Checks.row(1, 2));
        x.diff(0, 1);
        x.merge(0, 0, 1);
        RowDiffer y = new RowDiffer();
        checks.due("length in another object", y.length(0), 0);
        checks.due("steps in another object", y.steps(), -1);
        checks.due("conflicts in another object", y.conflicts(), -1);
    }

    private static void addPutsBehind() {
        checks.promise(2, "Puts a number behind a row: how many it has then");
        RowDiffer x = new RowDiffer();
        checks.due("first", x.add(0, 5), 1);
        checks.due("second", x.add(0, Integer.MIN_VALUE), 2);
        checks.due("third", x.add(0, Integer.MAX_VALUE), 3);
        checks.due("last row", x.add(7, -1), 1);
        checks.due("row 0", Checks.rowText(x, 0), "5 -2147483648 2147483647");
        checks.due("row 7", Checks.rowText(x, 7), "-1");
        checks.due("row 1", Checks.rowText(x, 1), "");
    }

    private static void wipeTakesAway() {
        checks.promise(3, "Takes a row's numbers away: how many there were");
        RowDiffer x = Checks.withRows(Checks.row(1, 2, 3), Checks.row(4, 5));
        checks.due("wipe", x.wipe(0), 3);
        checks.due("length then", x.length(0), 0);
        checks.due("wipe again", x.wipe(0), 0);
        checks.due("other row", Checks.rowText(x, 1), "4 5");
        checks.due("add then", x.add(0, 6), 1);
        checks.due("row then", Checks.rowText(x, 0), "6");
    }

    private static void lengthOfRows() {
        checks.promise(4, "How many numbers a row has");
        RowDiffer x = Checks.withRows(Checks.row(1, 2, 3), Checks.row(4));
        checks.due("three", x.length(0), 3);
        checks.due("one", x.length(1), 1);
    }

    private static void numberOfRows() {
        checks.promise(5, "A number of a row");
        RowDiffer x = Checks.withRows(Checks.row(11, 12, 13), Checks.row(14));
        checks.due("first", x.number(0, 0), 11);
        checks.due("second", x.number(0, 1), 12);
        checks.due("last", x.number(0, 2), 13);
        checks.due("other row", x.number(1, 0), 14);
    }
}
