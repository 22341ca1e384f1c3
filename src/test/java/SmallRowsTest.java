import java.util.ArrayList;
import java.util.Arrays;
import java.util.List;

/** Promises 6 to 15 with every row of few numbers, the empty one among them, against the plain model. */
public final class SmallRowsTest {
    private static final int KINDS_OF_NUMBERS = 3;
    private static final Checks checks = new Checks();

    private final RowDiffer x;
    private final Model model = new Model();
    private final String name;

    private SmallRowsTest(int[]... rows) {
        x = Checks.withRows(rows);
        StringBuilder text = new StringBuilder();
        for (int row = 0; row < rows.length; row++) {
            for (int v : rows[row]) {
                model.add(row, v);
            }
            text.append('(').append(Checks.rowText(rows[row])).append(") ");
        }
        name = text.toString();
    }

    public static void main(String[] args) {
        for (int[] a : rowsUpTo(4)) {
            for (int[] b : rowsUpTo(4)) {
                new SmallRowsTest(a, b).compare();
            }
        }
        for (int[] base : rowsUpTo(3)) {
            for (int[] left : rowsUpTo(3)) {
                for (int[] right : rowsUpTo(2)) {
                    new SmallRowsTest(base, left, right).bringTogether();
                    new SmallRowsTest(base, right, left).bringTogether();
                }
            }
        }
        checks.end();
    }

    private static List<int[]> rowsUpTo(int most) {
        List<int[]> found = new ArrayList<>();
        found.add(new int[0]);
        for (int k = 0; k < found.size() && found.get(k).length < most; k++) {
            int[] shorter = found.get(k);
            for (int v = 0; v < KINDS_OF_NUMBERS; v++) {
                int[] longer = Arrays.copyOf(shorter, shorter.length + 1);
                longer[shorter.length] = v;
                found.add(longer);
            }
        }
        return found;
    }

    private void compare() {
        checks.promise(6, "Makes the script from row a to row b");
        checks.same(name + "diff", () -> x.diff(0, 1), () -> model.diff(0, 1));
        checks.promise(7, "How many steps the script has");
        checks.same(name + "steps", x::steps, model::steps);
        checks.promise(8, "Of step k of it");
        for (int k = 0; k < model.steps(); k++) {
            for (int what = 0; what < 4; what++) {
                lookAtStep(k, what);
            }
        }
        checks.promise(9, "How many hunks it has");
        checks.same(name + "hunks", x::hunks, model::hunks);
        checks.promise(10, "Of hunk k");
        for (int k = 0; k < model.hunks(); k++) {
            for (int what = 0; what < 4; what++) {
                lookAtHunk(k, what);
            }
        }
        applyAllWays();
    }

    private void lookAtStep(int k, int what) {
        checks.same(name + "step " + k + " " + what, () -> x.step(k, what), () -> model.step(k, what));
    }

    private void lookAtHunk(int k, int what) {
        checks.same(name + "hunk " + k + " " + what, () -> x.hunk(k, what), () -> model.hunk(k, what));
    }

    private void applyAllWays() {
        checks.promise(11, "Row into becomes what the script makes of a row");
        for (int row = 0; row < 2; row++) {
            int source = row;
            for (boolean back : new boolean[] {false, true}) {
                String call = name + "apply " + row + " " + back;
                checks.same(call, () -> x.apply(source, 7, back), () -> model.apply(source, 7, back));
                dueRow(call);
            }
        }
    }

    private void bringTogether() {
        checks.promise(12, "Makes the merge of rows: how many entries it has");
        checks.same(name + "merge", () -> x.merge(0, 1, 2), () -> model.merge(0, 1, 2));
        checks.promise(13, "Of entry k of the merge that was made last");
        for (int k = 0; k < 10; k++) {
            for (int what = 0; what < 4; what++) {
                lookAtEntry(k, what);
            }
        }
        checks.promise(14, "How many conflicts that merge has");
        checks.same(name + "conflicts", x::conflicts, model::conflicts);
        checks.promise(15, "Row into becomes the numbers of the entries that are seen");
        for (int sides = 0; sides < 4; sides++) {
            int asked = sides;
            checks.same(name + "see " + sides, () -> x.see(asked, 7), () -> model.see(asked, 7));
            dueRow(name + "see " + sides);
        }
    }

    private void lookAtEntry(int k, int what) {
        checks.same(name + "entry " + k + " " + what, () -> x.entry(k, what), () -> model.entry(k, what));
    }

    private void dueRow(String call) {
        for (int place = 0; place <= model.length(7); place++) {
            int asked = place;
            checks.same(call + ", place " + place, () -> x.number(7, asked), () -> model.number(7, asked));
        }
    }
}
