import java.util.List;
import java.util.function.IntSupplier;
import java.util.function.IntUnaryOperator;

/** Counts and prints the answers that are not the ones due, and shows an object's state as text. */
final class Checks {
    static final Class<IndexOutOfBoundsException> INDEX = IndexOutOfBoundsException.class;
    static final Class<IllegalArgumentException> ARGUMENT = IllegalArgumentException.class;
    static final Class<IllegalStateException> STATE = IllegalStateException.class;

    static final int[] NO_ROWS = outside(8);
    static final int[] NO_PROPERTIES = outside(4);
    static final int[] NO_SETS = outside(4);

    /** What promises 1 to 15 are of, in their order. */
    private static final List<String> PROMISED = List.of("RowDiffer", "add", "wipe", "length", "number", "diff",
            "steps", "step", "hunks", "hunk", "apply", "merge", "entry", "conflicts", "see");

    /** No merge has more, so that a search for the end of one ends. */
    private static final int MOST_ENTRIES = 360;

    private int wrong = 0;
    private String heading = "";

    /** One test: what it throws is a wrong answer of its own, and the tests behind it run all the same. */
    void run(Runnable test) {
        heading = "";
        try {
            test.run();
        } catch (RuntimeException e) {
            wrong++;
            System.out.println(heading + "threw " + e);
            e.printStackTrace(System.out);
        }
    }

    /** Names the promise, and quotes of it the words that the checks from here on look at. */
    void promise(int number, String words) {
        heading = "promise " + number + ", \"" + words + "\": ";
    }

    /** The number of the promise of a call, by the call's name. */
    static int promiseOf(String call) {
        return PROMISED.indexOf(call) + 1;
    }

    boolean due(String what, Object got, Object want) {
        boolean isRight = want.equals(got);
        if (!isRight) {
            wrong++;
            System.out.println(heading + what + ": answered " + got + ", due is " + want);
        }
        return isRight;
    }

    /** The class must be this one exactly: what the machine throws is often a class below it. */
    void dueThrow(String what, Class<? extends RuntimeException> want, IntSupplier call) {
        due(what, answerOf(call), "throws." + want.getSimpleName());
    }

    /** The properties 0, 1, .. of one step, hunk or entry. */
    void dueProperties(String what, IntUnaryOperator property, int... want) {
        for (int k = 0; k < want.length; k++) {
            due(what + ", " + k, property.applyAsInt(k), want[k]);
        }
    }

    /** Whether two calls answer, or throw, the same. */
    boolean same(String what, IntSupplier got, IntSupplier want) {
        return due(what, answerOf(got), answerOf(want));
    }

    static String answerOf(IntSupplier call) {
        try {
            return Integer.toString(call.getAsInt());
        } catch (RuntimeException e) {
            return "throws." + e.getClass().getSimpleName();
        }
    }

    void end() {
        System.out.println(wrong == 0 ? "all answers are as due" : wrong + " answers are not as due");
        if (wrong != 0) {
            System.exit(1);
        }
    }

    static RowDiffer withRows(int[]... rows) {
        RowDiffer x = new RowDiffer();
        for (int row = 0; row < rows.length; row++) {
            fill(x, row, rows[row]);
        }
        return x;
    }

    /** What is no index where a count of things stands: just outside it, and as far outside as can be. */
    static int[] outside(int count) {
        return new int[] {-1, count, count + 1, Integer.MIN_VALUE, Integer.MAX_VALUE};
    }

    static int[] row(int... numbers) {
        return numbers;
    }

    static int[] countUp(int from, int count) {
        int[] numbers = new int[count];
        for (int k = 0; k < count; k++) {
            numbers[k] = from + k;
        }
        return numbers;
    }

    static void fill(RowDiffer x, int row, int... numbers) {
        x.wipe(row);
        for (int v : numbers) {
            x.add(row, v);
        }
    }

    static String rowText(int... numbers) {
        StringBuilder text = new StringBuilder();
        for (int v : numbers) {
            text.append(v).append(' ');
        }
        return text.toString().trim();
    }

    static String rowText(RowDiffer x, int row) {
        StringBuilder text = new StringBuilder();
        for (int place = 0; place < x.length(row); place++) {
            text.append(x.number(row, place)).append(' ');
        }
        return text.toString().trim();
    }

    /** Each step as kind, i, j and number, such as K0,0:7. */
    static String scriptText(RowDiffer x) {
        StringBuilder text = new StringBuilder();
        for (int k = 0; k < x.steps(); k++) {
            text.append("KEI".charAt(x.step(k, 0))).append(x.step(k, 1)).append(',').append(x.step(k, 2));
            text.append(':').append(x.step(k, 3)).append(' ');
        }
        return text.toString().trim();
    }

    /** Each hunk as i, j, how many it erases and how many it inserts, such as 0,0-2+1. */
    static String hunksText(RowDiffer x) {
        StringBuilder text = new StringBuilder();
        for (int k = 0; k < x.hunks(); k++) {
            text.append(x.hunk(k, 0)).append(',').append(x.hunk(k, 1));
            text.append('-').append(x.hunk(k, 2)).append('+').append(x.hunk(k, 3)).append(' ');
        }
        return text.toString().trim();
    }

    /** Each entry as number, inserted, erased and place in base, such as 7+1-0@-1. */
    static String mergeText(RowDiffer x) {
        StringBuilder text = new StringBuilder();
        for (int k = 0; k < MOST_ENTRIES && isEntry(x, k); k++) {
            text.append(x.entry(k, 0)).append('+').append(x.entry(k, 1));
            text.append('-').append(x.entry(k, 2)).append('@').append(x.entry(k, 3)).append(' ');
        }
        return text.toString().trim();
    }

    private static boolean isEntry(RowDiffer x, int k) {
        return !answerOf(() -> x.entry(k, 0)).startsWith("throws.");
    }

    /** All that an object can be asked for: its rows, its script with the hunks, its merge with the conflicts. */
    static String stateText(RowDiffer x) {
        StringBuilder text = new StringBuilder();
        for (int row = 0; row < 8; row++) {
            text.append(rowText(x, row)).append(" | ");
        }
        text.append(x.steps()).append(" steps ").append(scriptText(x)).append(" | ");
        text.append(x.hunks()).append(" hunks ").append(hunksText(x)).append(" | ");
        return text.append(mergeText(x)).append(' ').append(x.conflicts()).append(" conflicts").toString();
    }
}
