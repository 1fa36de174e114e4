import java.lang.reflect.Constructor;
import java.lang.reflect.Field;
import java.lang.reflect.Method;
import java.lang.reflect.Modifier;
import java.util.Arrays;
import java.util.Set;
import java.util.TreeSet;

/** The class shows the document's face, with its throws clauses, and nothing else. */
public final class FaceTest {
    private static final Set<String> FACE = new TreeSet<>(Arrays.asList(
            "int make(int, int, int, int, int) Index Argument State",
            "int setRef(int, int, int) Index",
            "int ref(int, int) Index",
            "int fileAt(int, int) Index",
            "int fetch(int, int, boolean) Index Argument State",
            "int wouldFetch(int, int) Index Argument State",
            "int rounds()",
            "boolean load(int) Argument State",
            "int missing()",
            "boolean protect(int, boolean) Index",
            "int move(int, int, int) Index State",
            "int push()",
            "int collect(int) Index",
            "int commits()",
            "boolean has(int, int) Index",
            "boolean hasFile(int, int) Index Argument",
            "boolean isShallow(int) Index",
            "boolean isAncestor(int, int, int) Index",
            "FetchHouse()",
            "NONE = -1", "SERVER = 0", "CLIENT = 1", "STALE = -2", "BACK = -3", "LACKING = -4"));

    public static void main(String[] args) throws IllegalAccessException {
        Checks checks = new Checks();
        checks.promise("The public face");
        checks.due("the class's modifiers", FetchHouse.class.getModifiers(), Modifier.PUBLIC | Modifier.FINAL);
        Set<String> shown = new TreeSet<>();
        Set<String> privateNames = new TreeSet<>();
        for (Method method : FetchHouse.class.getDeclaredMethods()) {
            if (Modifier.isPrivate(method.getModifiers())) {
                privateNames.add(method.getName());
            } else {
                shown.add(method.getReturnType() + " " + method.getName() + typesOf(method.getParameterTypes())
                        + thrownOf(method.getExceptionTypes()));
                checks.due(method.getName() + "'s modifiers", method.getModifiers(), Modifier.PUBLIC);
            }
        }
        for (Constructor<?> constructor : FetchHouse.class.getDeclaredConstructors()) {
            shown.add("FetchHouse" + typesOf(constructor.getParameterTypes()));
            checks.due("the constructor's modifiers", constructor.getModifiers(), Modifier.PUBLIC);
        }
        for (Field field : FetchHouse.class.getDeclaredFields()) {
            if (!Modifier.isPrivate(field.getModifiers())) {
                shown.add(field.getName() + " = " + field.getInt(null));
                checks.due(field.getName() + "'s modifiers", field.getModifiers(),
                        Modifier.PUBLIC | Modifier.STATIC | Modifier.FINAL);
            }
        }
        checks.due("the face", shown, FACE);
        for (Method method : FetchHouse.class.getDeclaredMethods()) {
            if (Modifier.isPublic(method.getModifiers())) {
                checks.due("a private method named " + method.getName(), privateNames.contains(method.getName()), false);
            }
        }
        checks.end();
    }

    private static String typesOf(Class<?>[] types) {
        return Arrays.toString(types).replace('[', '(').replace(']', ')');
    }

    private static String thrownOf(Class<?>[] types) {
        StringBuilder text = new StringBuilder();
        for (Class<?> type : types) {
            text.append(' ').append(type == IndexOutOfBoundsException.class ? "Index"
                    : type == IllegalArgumentException.class ? "Argument"
                    : type == IllegalStateException.class ? "State" : type.getName());
        }
        return text.toString();
    }
}
