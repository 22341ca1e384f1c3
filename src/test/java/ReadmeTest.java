import java.io.IOException;
import java.lang.reflect.InvocationTargetException;
import java.lang.reflect.Method;
import java.lang.reflect.Modifier;
import java.nio.file.Files;
import java.nio.file.Path;
import java.util.Map;
import java.util.Set;
import java.util.StringJoiner;
import java.util.TreeMap;
import java.util.TreeSet;
import java.util.regex.Matcher;
import java.util.regex.Pattern;

/** The calls that README.md shows, read from it and done in its order: each answers what stands behind it there. */
public final class ReadmeTest {
    private static final String MAKING = "RowDiffer x = new RowDiffer();";
    /** A call, its answer and, at times, words on it. */
    private static final Pattern CALL = Pattern.compile("x\\.(\\w+)\\((.*)\\); +// (-?\\d+|throws \\w+)(?:: (.+))?");
    private static final Pattern ROW = Pattern.compile("row (\\d) is (empty|-?\\d+(?: -?\\d+)*)");
    private static final String[] KINDS = {"KEEP", "ERASE", "INSERT"};
    private static final String[] SIDES = {"nobody", "left", "right", "both"};
    private static final Checks checks = new Checks();

    private final Map<String, Method> face = new TreeMap<>();
    private final Set<String> shown = new TreeSet<>();
    private RowDiffer x = null;

    public static void main(String[] args) throws IOException {
        ReadmeTest test = new ReadmeTest();
        boolean isShown = false;
        for (String line : Files.readAllLines(Path.of("README.md"))) {
            if (line.startsWith("```")) {
                isShown = line.equals("```java");
            } else if (isShown) {
                test.lookAt(line);
            }
        }
        checks.due("README.md shows the calls", test.shown, test.face.keySet());
        checks.end();
    }

    private ReadmeTest() {
        for (Method method : RowDiffer.class.getDeclaredMethods()) {
            if (Modifier.isPublic(method.getModifiers())) {
                face.put(method.getName(), method);
            }
        }
    }

    private void lookAt(String line) {
        Matcher call = CALL.matcher(line);
        if (line.equals(MAKING)) {
            x = new RowDiffer();
        } else if (x != null && call.matches() && face.containsKey(call.group(1))) {
            String what = "promise " + Checks.promiseOf(call.group(1)) + ", README.md: " + line;
            checks.due(what, answerOf(face.get(call.group(1)), call.group(2)), call.group(3));
            lookAtWords(what, call.group(4) == null ? "" : call.group(4));
            shown.add(call.group(1));
        } else {
            checks.due("README.md: " + line, "no call with an answer", "a call with an answer");
        }
    }

    private String answerOf(Method method, String text) {
        String[] words = text.isEmpty() ? new String[0] : text.split(", ", -1);
        if (words.length != method.getParameterCount()) {
            return "takes no such arguments";
        }
        Object[] arguments = new Object[words.length];
        for (int k = 0; k < words.length; k++) {
            boolean isTruth = method.getParameterTypes()[k] == boolean.class;
            arguments[k] = isTruth ? (Object) Boolean.valueOf(words[k]) : (Object) Integer.valueOf(words[k]);
        }
        try {
            return method.invoke(x, arguments).toString();
        } catch (InvocationTargetException e) {
            return "throws " + e.getCause().getClass().getSimpleName();
        } catch (IllegalAccessException e) {
            throw new IllegalStateException(e);
        }
    }

    /** Words that tell a row, the steps of the script or the entries of the merge must be true as well. */
    private void lookAtWords(String what, String words) {
        Matcher row = ROW.matcher(words);
        if (row.matches()) {
            String numbers = Checks.rowText(x, Integer.parseInt(row.group(1)));
            checks.due(what, numbers.isEmpty() ? "empty" : numbers, row.group(2));
        } else if (words.startsWith("steps ")) {
            checks.due(what, stepsText(), words);
        } else if (words.startsWith("entries ")) {
            checks.due(what, entriesText(), words);
        }
    }

    private String stepsText() {
        StringJoiner text = new StringJoiner(", ", "steps ", "");
        for (int k = 0; k < x.steps(); k++) {
            text.add(KINDS[x.step(k, 0)] + " " + x.step(k, 3));
        }
        return text.toString();
    }

    private String entriesText() {
        StringJoiner text = new StringJoiner(", ", "entries ", "");
        int entries = Checks.mergeText(x).split(" ").length;
        for (int k = 0; k < entries; k++) {
            String inserted = x.entry(k, 1) == 0 ? "" : " inserted by " + SIDES[x.entry(k, 1)];
            String erased = x.entry(k, 2) == 0 ? "" : " erased by " + SIDES[x.entry(k, 2)];
            text.add(x.entry(k, 0) + inserted + erased);
        }
        return text.toString();
    }
}
