import java.io.File;
import java.lang.reflect.Method;
import java.lang.reflect.Modifier;
import java.util.HashMap;
import java.util.Map;
import java.util.Set;
import java.util.TreeSet;
import java.util.regex.Matcher;
import java.util.regex.Pattern;

/** The calls of README.md answer what stands behind them, and none of the face is left out. */
public final class ReadmeTest {
    private static final Pattern CALL = Pattern.compile("(?:int ([a-z]+) = )?rack\\.([a-z]+)\\(([^)]*)\\);"
            + " +// (throws [A-Za-z]+|-?[0-9]+|NONE)(?:: .+)?");
    private static final String NEW_OBJECT = "PolicyRack rack = new PolicyRack();";
    private static final String FULL = "A ninth shelf and a 301st use of the row throw IllegalStateException.";

    private final Check check = new Check("ReadmeTest");
    private final Set<String> called = new TreeSet<>();
    private final Set<String> ways = new TreeSet<>();
    private final Map<String, String> names = new HashMap<>();
    private TextRack rack = new TextRack();

    public static void main(String[] args) {
        ReadmeTest test = new ReadmeTest();
        for (String line : TextFile.javaIn(TextFile.README)) {
            test.tryLine(line);
        }
        test.nothingIsLeftOut();
        test.fullRackAndRow();
        test.testsAreNamed();
        test.check.end();
    }

    private void tryLine(String line) {
        Matcher call = CALL.matcher(line);
        if (line.equals(NEW_OBJECT)) {
            rack = new TextRack();
            names.clear();
        } else if (call.matches()) {
            tryCall(line, call);
        } else {
            check.same("\"" + line + "\"", "neither a new object nor a call with its answer", "one");
        }
    }

    private void tryCall(String line, Matcher call) {
        String arguments = numbersFor(call.group(3));
        String answer = rack.answer(call.group(2) + "(" + arguments + ")");
        check.same(line, answer, call.group(4).replace("throws ", "throws.").replace("NONE", "-1"));
        called.add(call.group(2));
        if (call.group(1) != null) {
            check.same(line + " of a new name", "" + names.put(call.group(1), answer), "null");
            ways.add(arguments.substring(0, 1));
        }
    }

    private String numbersFor(String arguments) {
        String[] numbers = arguments.split(", ");
        for (int i = 0; i < numbers.length; i++) {
            numbers[i] = names.getOrDefault(numbers[i], numbers[i]);
        }
        return String.join(", ", numbers);
    }

    private void nothingIsLeftOut() {
        Set<String> face = new TreeSet<>();
        for (Method method : PolicyRack.class.getDeclaredMethods()) {
            if (Modifier.isPublic(method.getModifiers())) {
                face.add(method.getName());
            }
        }
        check.same("calls that are shown", called.toString(), face.toString());
        check.same("ways that are shown", ways.toString(), "[0, 1, 2, 3, 4, 5]");
    }

    private void fullRackAndRow() {
        check.same("what is said of a full rack and row", "" + text().contains(FULL), "true");
        TextRack full = new TextRack();
        for (int i = 0; i < 8; i++) {
            check.same("shelf " + i, full.answer("shelf(0, 1, 0, 0)"), Integer.toString(i));
        }
        check.same("a ninth shelf", full.answer("shelf(0, 1, 0, 0)"), Check.STATE);
        for (int i = 1; i <= 300; i++) {
            check.same("use " + i, full.answer("use(" + i + ")"), "0");
        }
        check.same("a 301st use", full.answer("use(1)"), Check.STATE);
    }

    private void testsAreNamed() {
        for (String file : new File("src/test/java").list()) {
            String name = file.replace(".java", "");
            if (name.endsWith("Test")) {
                check.same(name + " is named", "" + text().contains("`" + name + "`"), "true");
            }
        }
    }

    private static String text() {
        return String.join(" ", TextFile.linesOf(TextFile.README));
    }
}
