import java.util.Random;
import java.util.function.IntSupplier;

/** All promises at once: long runs of mixed calls, each answer the one that the plain model gives. */
public final class ModelTest {
    private static final int RUNS = 3000;
    private static final int CALLS = 512;
    private static final Checks checks = new Checks();

    private final Random random;
    private final String name;
    private final int kindsOfNumbers;
    private final RowDiffer x = new RowDiffer();
    private final Model model = new Model();
    private int calls = 0;
    /** Behind a wrong answer object and model may differ, and what follows tells nothing new. */
    private boolean isRight = true;

    private ModelTest(int seed) {
        random = new Random(seed);
        name = "run " + seed + ", ";
        kindsOfNumbers = 1 + random.nextInt(seed % 3 == 0 ? 60 : 6);
    }

    public static void main(String[] args) {
        for (int seed = 1; seed <= RUNS; seed++) {
            new ModelTest(seed).run();
        }
        checks.end();
    }

    private void run() {
        int most = random.nextInt(4) == 0 ? 121 : 20;
        for (int row = 0; row < 3; row++) {
            fill(row, random.nextInt(most + 1));
        }
        while (calls < CALLS && isRight) {
            change();
            for (int k = 0; k < 4 && calls < CALLS && isRight; k++) {
                look();
            }
        }
    }

    private void fill(int row, int count) {
        for (int k = 0; k < count; k++) {
            add(row);
        }
    }

    private void change() {
        int a = anyRow();
        int b = anyRow();
        int c = anyRow();
        boolean back = random.nextBoolean();
        int sides = near(4);
        switch (random.nextInt(9)) {
            case 0, 1, 2 -> add(a);
            case 3 -> {
                if (random.nextInt(4) == 0) {
                    same("wipe " + a, () -> x.wipe(a), () -> model.wipe(a));
                }
            }
            case 4, 5 -> same("diff " + a + " " + b, () -> x.diff(a, b), () -> model.diff(a, b));
            case 6 -> same("apply " + a + " " + b + " " + back,
                    () -> x.apply(a, b, back), () -> model.apply(a, b, back));
            case 7 -> same("merge " + a + " " + b + " " + c, () -> x.merge(a, b, c), () -> model.merge(a, b, c));
            default -> same("see " + sides + " " + a, () -> x.see(sides, a), () -> model.see(sides, a));
        }
    }

    private void look() {
        int row = anyRow();
        int what = near(4);
        int place = near(model.length(row));
        int step = near(model.steps());
        int hunk = near(model.hunks());
        int entry = random.nextInt(40) == 0 ? near(360) : near(12);
        switch (random.nextInt(8)) {
            case 0 -> same("length " + row, () -> x.length(row), () -> model.length(row));
            case 1 -> same("number " + row + " " + place, () -> x.number(row, place), () -> model.number(row, place));
            case 2 -> same("steps", x::steps, model::steps);
            case 3 -> same("step " + step + " " + what, () -> x.step(step, what), () -> model.step(step, what));
            case 4 -> same("hunks", x::hunks, model::hunks);
            case 5 -> same("hunk " + hunk + " " + what, () -> x.hunk(hunk, what), () -> model.hunk(hunk, what));
            case 6 -> same("entry " + entry + " " + what, () -> x.entry(entry, what), () -> model.entry(entry, what));
            default -> same("conflicts", x::conflicts, model::conflicts);
        }
    }

    private void add(int row) {
        int v = random.nextInt(kindsOfNumbers);
        same("add " + row + " " + v, () -> x.add(row, v), () -> model.add(row, v));
    }

    private int anyRow() {
        return random.nextInt(4) == 0 ? near(8) : random.nextInt(4);
    }

    /** Mostly 0 to bound - 1, at times a little outside. */
    private int near(int bound) {
        return random.nextInt(Math.max(bound, 0) + 2) - 1;
    }

    private void same(String call, IntSupplier got, IntSupplier want) {
        calls++;
        int promise = Checks.promiseOf(call.split(" ")[0]);
        isRight &= checks.same("promise " + promise + ", " + name + "call " + calls + ", " + call, got, want);
    }
}
