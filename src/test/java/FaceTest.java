import java.lang.reflect.Constructor;
import java.lang.reflect.Field;
import java.lang.reflect.Method;
import java.lang.reflect.Modifier;
import java.util.Set;
import java.util.TreeSet;

/** The class shows the document's face and nothing else. */
public final class FaceTest {
    private static final String ARGUMENT = " throws IllegalArgumentException";
    private static final String STATE = " IllegalStateException";
    private static final String ELEMENT = " NoSuchElementException";

    public static void main(String[] args) {
        Check check = new Check("FaceTest");
        Set<String> due = new TreeSet<>(Set.of(
                "int NONE", "PolicyRack(0)",
                "int shelf(4)" + ARGUMENT + STATE, "int get(2)" + ARGUMENT + ELEMENT,
                "int put(3)" + ARGUMENT, "int drop(2)" + ARGUMENT,
                "int has(2)" + ARGUMENT, "int victim(1)" + ARGUMENT,
                "int list(3)" + ARGUMENT, "int told(2)" + ARGUMENT));
        due.addAll(Set.of(
                "int use(1)" + ARGUMENT + STATE, "int clear(0)",
                "int distance(1)" + ARGUMENT, "int curve(1)" + ARGUMENT,
                "int optimum(1)" + ARGUMENT, "int count(1)" + ARGUMENT));
        check.same("visible members", visibleMembers().toString(), due.toString());
        check.same("public final", Modifier.toString(PolicyRack.class.getModifiers()), "public final");
        check.same("names of private methods", privateNamesOfTheFace().toString(), "[]");
        check.end();
    }

    private static Set<String> visibleMembers() {
        Set<String> members = new TreeSet<>();
        for (Field field : PolicyRack.class.getDeclaredFields()) {
            if (!Modifier.isPrivate(field.getModifiers())) {
                members.add(field.getType() + " " + field.getName());
            }
        }
        for (Constructor<?> constructor : PolicyRack.class.getDeclaredConstructors()) {
            members.add("PolicyRack(" + constructor.getParameterCount() + ")");
        }
        for (Method method : PolicyRack.class.getDeclaredMethods()) {
            if (!Modifier.isPrivate(method.getModifiers())) {
                members.add(textOf(method));
            }
        }
        return members;
    }

    private static String textOf(Method method) {
        StringBuilder text = new StringBuilder();
        text.append(method.getReturnType()).append(' ').append(method.getName());
        text.append('(').append(method.getParameterCount()).append(')');
        String before = " throws ";
        for (Class<?> thrown : method.getExceptionTypes()) {
            text.append(before).append(thrown.getSimpleName());
            before = " ";
        }
        return text.toString();
    }

    private static Set<String> privateNamesOfTheFace() {
        Set<String> open = new TreeSet<>();
        Set<String> hidden = new TreeSet<>();
        for (Method method : PolicyRack.class.getDeclaredMethods()) {
            (Modifier.isPrivate(method.getModifiers()) ? hidden : open).add(method.getName());
        }
        hidden.retainAll(open);
        return hidden;
    }
}
