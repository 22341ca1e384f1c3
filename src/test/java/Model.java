import java.util.ArrayList;
import java.util.List;

/** The document's words put down with lists, as slowly and plainly as they are said. */
final class Model {
    record Step(int kind, int i, int j, int v) { }

    record Entry(int v, int inserted, int erased, int place) { }

    private final List<List<Integer>> rows = new ArrayList<>();
    private List<Step> script = null;
    private List<Entry> merge = null;
    private int conflictCount = 0;

    Model() {
        for (int row = 0; row < 8; row++) {
            rows.add(new ArrayList<>());
        }
    }

    int add(int row, int v) {
        if (row < 0 || row > 7 || rows.get(row).size() == 120) {
            return -1;
        }
        rows.get(row).add(v);
        return rows.get(row).size();
    }

    int wipe(int row) {
        int before = length(row);
        if (before > 0) {
            rows.get(row).clear();
        }
        return before;
    }

    int length(int row) {
        return row < 0 || row > 7 ? -1 : rows.get(row).size();
    }

    int number(int row, int place) {
        return of(of(rows, row), place);
    }

    int diff(int a, int b) {
        List<Step> made = scriptOf(of(rows, a), of(rows, b));
        refuseCostly(made);
        script = made;
        return costOf(made);
    }

    int steps() {
        return script == null ? -1 : script.size();
    }

    int step(int k, int what) {
        Step s = of(script, k);
        return pick(what, s.kind, s.i, s.j, s.v);
    }

    int hunks() {
        return script == null ? -1 : hunkList().size();
    }

    int hunk(int k, int what) {
        List<Step> h = of(script == null ? null : hunkList(), k);
        int erased = (int) h.stream().filter(s -> s.kind == 1).count();
        return pick(what, h.get(0).i, h.get(0).j, erased, h.size() - erased);
    }

    int apply(int row, int into, boolean back) {
        List<Integer> source = of(rows, row);
        of(rows, into);
        if (script == null || !source.equals(sideOf(back ? 2 : 1))) {
            throw new IllegalStateException();
        }
        rows.set(into, sideOf(back ? 1 : 2));
        return length(into);
    }

    int merge(int base, int left, int right) {
        List<Integer> from = of(rows, base);
        List<Integer> leftRow = of(rows, left);
        List<Integer> rightRow = of(rows, right);
        List<Step> leftScript = scriptOf(from, leftRow);
        List<Step> rightScript = scriptOf(from, rightRow);
        refuseCostly(leftScript);
        refuseCostly(rightScript);
        merge = new ArrayList<>();
        conflictCount = 0;
        for (int p = 0; p <= from.size(); p++) {
            mergeInserts(insertsAt(leftScript, p), insertsAt(rightScript, p));
            if (p < from.size()) {
                int erased = (erasesAt(leftScript, p) ? 1 : 0) + (erasesAt(rightScript, p) ? 2 : 0);
                merge.add(new Entry(from.get(p), 0, erased, p));
            }
        }
        return merge.size();
    }

    int entry(int k, int what) {
        Entry e = of(merge, k);
        return pick(what, e.v, e.inserted, e.erased, e.place);
    }

    int conflicts() {
        return merge == null ? -1 : conflictCount;
    }

    int see(int sides, int into) {
        of(rows, into);
        if (sides < 0 || sides > 3) {
            throw new IllegalArgumentException();
        }
        List<Integer> seen = new ArrayList<>();
        for (Entry e : merge == null ? new ArrayList<Entry>() : merge) {
            boolean there = e.inserted == 0;
            boolean gone = false;
            for (int side = 1; side <= 2; side++) {
                boolean counts = (sides & side) != 0;
                there = there || counts && (e.inserted & side) != 0;
                gone = gone || counts && (e.erased & side) != 0;
            }
            if (there && !gone) {
                seen.add(e.v);
            }
        }
        if (merge == null || seen.size() > 120) {
            throw new IllegalStateException();
        }
        rows.set(into, seen);
        return seen.size();
    }

    private static <T> T of(List<T> list, int k) {
        if (list == null || k < 0 || k >= list.size()) {
            throw new IndexOutOfBoundsException();
        }
        return list.get(k);
    }

    private static int pick(int what, int... properties) {
        if (what < 0 || what > 3) {
            throw new IllegalArgumentException();
        }
        return properties[what];
    }

    private static int costOf(List<Step> steps) {
        return (int) steps.stream().filter(s -> s.kind != 0).count();
    }

    private static void refuseCostly(List<Step> steps) {
        if (costOf(steps) > 100) {
            throw new IllegalStateException();
        }
    }

    /** The least cost of making what is left of a from i on into what is left of b from j on. */
    private static int[][] leastCosts(List<Integer> a, List<Integer> b) {
        int[][] least = new int[a.size() + 1][b.size() + 1];
        for (int i = a.size(); i >= 0; i--) {
            for (int j = b.size(); j >= 0; j--) {
                int best = i == a.size() && j == b.size() ? 0 : Integer.MAX_VALUE;
                if (i < a.size()) {
                    best = Math.min(best, least[i + 1][j] + 1);
                }
                if (j < b.size()) {
                    best = Math.min(best, least[i][j + 1] + 1);
                }
                if (i < a.size() && j < b.size() && a.get(i).equals(b.get(j))) {
                    best = Math.min(best, least[i + 1][j + 1]);
                }
                least[i][j] = best;
            }
        }
        return least;
    }

    private static List<Step> scriptOf(List<Integer> a, List<Integer> b) {
        int[][] least = leastCosts(a, b);
        List<Step> made = new ArrayList<>();
        int i = 0;
        int j = 0;
        while (i < a.size() || j < b.size()) {
            if (i < a.size() && j < b.size() && a.get(i).equals(b.get(j))) {
                made.add(new Step(0, i, j, a.get(i)));
                i++;
                j++;
            } else if (i < a.size() && 1 + least[i + 1][j] == least[i][j]) {
                made.add(new Step(1, i, j, a.get(i)));
                i++;
            } else {
                made.add(new Step(2, i, j, b.get(j)));
                j++;
            }
        }
        if (costOf(made) != least[0][0]) {
            throw new AssertionError("the model's script has not the least cost");
        }
        return made;
    }

    private List<List<Step>> hunkList() {
        List<List<Step>> found = new ArrayList<>();
        boolean inside = false;
        for (Step s : script) {
            if (s.kind != 0 && !inside) {
                found.add(new ArrayList<>());
            }
            inside = s.kind != 0;
            if (inside) {
                found.get(found.size() - 1).add(s);
            }
        }
        return found;
    }

    /** What the script keeps and, with kind 1, erases or, with kind 2, inserts. */
    private List<Integer> sideOf(int kind) {
        List<Integer> side = new ArrayList<>();
        for (Step s : script) {
            if (s.kind == 0 || s.kind == kind) {
                side.add(s.v);
            }
        }
        return side;
    }

    private void mergeInserts(List<Integer> left, List<Integer> right) {
        int same = 0;
        while (same < left.size() && same < right.size() && left.get(same).equals(right.get(same))) {
            same++;
        }
        left.subList(0, same).forEach(v -> merge.add(new Entry(v, 3, 0, -1)));
        left.subList(same, left.size()).forEach(v -> merge.add(new Entry(v, 1, 0, -1)));
        right.subList(same, right.size()).forEach(v -> merge.add(new Entry(v, 2, 0, -1)));
        if (same < left.size() && same < right.size()) {
            conflictCount++;
        }
    }

    private static List<Integer> insertsAt(List<Step> steps, int p) {
        List<Integer> inserted = new ArrayList<>();
        for (Step s : steps) {
            if (s.kind == 2 && s.i == p) {
                inserted.add(s.v);
            }
        }
        return inserted;
    }

    private static boolean erasesAt(List<Step> steps, int p) {
        return steps.stream().anyMatch(s -> s.kind == 1 && s.i == p);
    }
}
