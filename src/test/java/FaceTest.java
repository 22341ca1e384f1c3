import java.lang.reflect.Constructor;
import java.lang.reflect.Field;
import java.lang.reflect.Method;
import java.lang.reflect.Modifier;
import java.util.Arrays;
import java.util.Set;
import java.util.TreeSet;

/** The public face: the document's constructor and methods, and no other member that is not private. */
public final class FaceTest {
    private static final Set<String> FACE = new TreeSet<>(Set.of(
            "add(int, int)",
            "wipe(int)",
            "length(int)",
            "number(int, int) IndexOutOfBoundsException",
            "diff(int, int) IndexOutOfBoundsException IllegalStateException",
            "steps()",
            "step(int, int) IndexOutOfBoundsException IllegalArgumentException",
            "hunks()",
            "hunk(int, int) IndexOutOfBoundsException IllegalArgumentException",
            "apply(int, int, boolean) IndexOutOfBoundsException IllegalStateException",
            "merge(int, int, int) IndexOutOfBoundsException IllegalStateException",
            "entry(int, int) IndexOutOfBoundsException IllegalArgumentException",
            "conflicts()",
            "see(int, int) IndexOutOfBoundsException IllegalArgumentException IllegalStateException"));
    private static final Checks checks = new Checks();

    public static void main(String[] args) {
        Set<String> found = new TreeSet<>();
        Set<String> names = new TreeSet<>();
        for (Method method : RowDiffer.class.getDeclaredMethods()) {
            if (!Modifier.isPrivate(method.getModifiers())) {
                found.add(signatureOf(method));
                names.add(method.getName());
            }
        }
        checks.due("methods", found, FACE);
        privateNamesDiffer(RowDiffer.class, names);
        for (Class<?> inside : RowDiffer.class.getDeclaredClasses()) {
            checks.due(inside + " is static and not public", Modifier.isStatic(inside.getModifiers())
                    && !Modifier.isPublic(inside.getModifiers()) && !Modifier.isProtected(inside.getModifiers()), true);
            privateNamesDiffer(inside, names);
        }
        for (Field field : RowDiffer.class.getDeclaredFields()) {
            checks.due(field + " is private", Modifier.isPrivate(field.getModifiers()), true);
        }
        Constructor<?>[] constructors = RowDiffer.class.getDeclaredConstructors();
        checks.due("constructors", Arrays.toString(constructors), "[public RowDiffer()]");
        checks.due("class", Modifier.toString(RowDiffer.class.getModifiers()), "public final");
        checks.end();
    }

    private static void privateNamesDiffer(Class<?> type, Set<String> names) {
        for (Method method : type.getDeclaredMethods()) {
            if (Modifier.isPrivate(method.getModifiers())) {
                checks.due(method + " bears a public name", names.contains(method.getName()), false);
            }
        }
    }

    private static String signatureOf(Method method) {
        String parameters = Arrays.toString(method.getParameterTypes());
        StringBuilder text = new StringBuilder(method.getName());
        text.append('(').append(parameters, 1, parameters.length() - 1).append(')');
        for (Class<?> thrown : method.getExceptionTypes()) {
            text.append(' ').append(thrown.getSimpleName());
        }
        boolean isAsDue = method.getReturnType() == int.class
                && Modifier.toString(method.getModifiers()).equals("public");
        return isAsDue ? text.toString() : method.toString();
    }
}
