import java.lang.reflect.Constructor;
import java.lang.reflect.Executable;
import java.lang.reflect.Field;
import java.lang.reflect.Method;
import java.lang.reflect.Modifier;
import java.util.ArrayList;
import java.util.List;
import java.util.Set;
import java.util.TreeSet;

/** The class shows the document's face and nothing else. */
public final class FaceTest {
    private static final String PROMISE = "## Promise ";

    public static void main(String[] args) throws IllegalAccessException {
        Check check = new Check("FaceTest");
        Set<String> face = faceOfTheDocument();
        check.same("visible members", visibleMembers().toString(), face.toString());
        check.same("class", Modifier.toString(PolicyRack.class.getModifiers()) + " class PolicyRack",
                TextFile.javaIn(TextFile.DOCUMENT).get(0).replace(" {", ""));
        check.same("names of private methods", privateNamesOfTheFace().toString(), "[]");
        face.removeIf(member -> member.contains(" = "));
        check.same("heads of the promises", headsOfThePromises().toString(), face.toString());
        check.same("NONE", Integer.toString(PolicyRack.NONE), "-1");
        check.end();
    }

    private static Set<String> faceOfTheDocument() {
        Set<String> members = new TreeSet<>();
        for (String line : TextFile.javaIn(TextFile.DOCUMENT)) {
            if (line.endsWith(";")) {
                members.add(withoutNames(line.strip().replace(";", "")));
            }
        }
        return members;
    }

    private static Set<String> headsOfThePromises() {
        Set<String> heads = new TreeSet<>();
        boolean inPromise = false;
        for (String line : TextFile.linesOf(TextFile.DOCUMENT)) {
            inPromise = line.startsWith("## ") ? line.startsWith(PROMISE) : inPromise;
            if (inPromise && line.startsWith("`")) {
                heads.add("public " + withoutNames(line.substring(1, line.indexOf('`', 1))));
            }
        }
        return heads;
    }

    /** Names of parameters count for nothing. */
    private static String withoutNames(String member) {
        return member.replaceAll("int [a-z]+([,)])", "int$1");
    }

    private static Set<String> visibleMembers() throws IllegalAccessException {
        Set<String> members = new TreeSet<>();
        for (Field field : PolicyRack.class.getDeclaredFields()) {
            if (!Modifier.isPrivate(field.getModifiers())) {
                members.add(Modifier.toString(field.getModifiers()) + " " + field.getType() + " "
                        + field.getName() + " = " + field.get(null));
            }
        }
        for (Constructor<?> constructor : PolicyRack.class.getDeclaredConstructors()) {
            members.add(textOf(constructor, constructor.getName()));
        }
        for (Method method : PolicyRack.class.getDeclaredMethods()) {
            if (!Modifier.isPrivate(method.getModifiers())) {
                members.add(textOf(method, method.getReturnType() + " " + method.getName()));
            }
        }
        return members;
    }

    private static String textOf(Executable member, String typeAndName) {
        String thrown = namesOf(member.getExceptionTypes());
        return Modifier.toString(member.getModifiers()) + " " + typeAndName
                + "(" + namesOf(member.getParameterTypes()) + ")"
                + (thrown.isEmpty() ? "" : " throws " + thrown);
    }

    private static String namesOf(Class<?>[] types) {
        List<String> names = new ArrayList<>();
        for (Class<?> type : types) {
            names.add(type.getSimpleName());
        }
        return String.join(", ", names);
    }

    private static Set<String> privateNamesOfTheFace() {
        Set<String> open = new TreeSet<>();
        Set<String> hidden = new TreeSet<>();
        for (Method method : PolicyRack.class.getDeclaredMethods()) {
            (Modifier.isPrivate(method.getModifiers()) ? hidden : open).add(method.getName());
        }
        hidden.retainAll(open);
        return hidden;
    }
}
