import java.io.File;
import java.io.IOException;
import java.lang.reflect.InvocationTargetException;
import java.lang.reflect.Method;
import java.lang.reflect.Modifier;
import java.nio.file.Files;
import java.nio.file.Path;
import java.util.regex.Matcher;
import java.util.regex.Pattern;

/** What README.md says of using the class and of its tests is so. It is read from the project's root. */
public final class ReadmeTest {
    private static final Checks checks = new Checks("ReadmeTest");
    private static final String NEW_OBJECT = "ChordOverlay overlay = new ChordOverlay();";
    private static final Pattern EXAMPLE =
            Pattern.compile("overlay\\.(\\w+)\\(([-0-9, ]*)\\); *// (throws \\w+|true|false|-?\\d+)(:.*)?");

    public static void main(String[] args) throws IOException {
        String readme = Files.readString(Path.of("README.md"));
        String[] parts = readme.split("\n```(java\n)?");
        checks.same("README.md has an example", parts.length > 2 && parts[1].startsWith(NEW_OBJECT), true);
        checks.edge("its example calls give the answers that it names", () -> example(parts[1]));
        checks.edge("All calls", () -> namesEachCall(readme));
        checks.edge("each file under src/test/java", () -> namesEachTest(readme));
        checks.tell();
    }

    private static void example(String block) {
        ChordOverlay overlay = new ChordOverlay();
        for (String line : block.substring(NEW_OBJECT.length()).strip().split("\n")) {
            Matcher example = EXAMPLE.matcher(line);
            checks.same(line + " tells its answer", example.matches(), true);
            if (example.matches()) {
                checks.same(line, answer(overlay, example.group(1), numbers(example.group(2))), example.group(3));
            }
        }
    }

    private static Object[] numbers(String written) {
        String[] each = written.isBlank() ? new String[0] : written.split(", ");
        Object[] numbers = new Object[each.length];
        for (int i = 0; i < each.length; i++) {
            numbers[i] = Integer.valueOf(each[i]);
        }
        return numbers;
    }

    private static String answer(ChordOverlay overlay, String name, Object[] given) {
        for (Method method : ChordOverlay.class.getDeclaredMethods()) {
            if (Modifier.isPublic(method.getModifiers()) && method.getName().equals(name)) {
                return answer(overlay, method, given);
            }
        }
        return "no such call";
    }

    private static String answer(ChordOverlay overlay, Method method, Object[] given) {
        try {
            return String.valueOf(method.invoke(overlay, given));
        } catch (InvocationTargetException e) {
            return "throws " + e.getCause().getClass().getSimpleName();
        } catch (IllegalAccessException e) {
            return "no access";
        }
    }

    private static void namesEachCall(String readme) {
        for (Method method : ChordOverlay.class.getDeclaredMethods()) {
            if (Modifier.isPublic(method.getModifiers())) {
                int parameters = method.getParameterCount();
                String arguments = parameters == 0 ? "" : "\\w+" + ", \\w+".repeat(parameters - 1);
                Pattern named = Pattern.compile("`" + method.getName() + "\\(" + arguments + "\\)`");
                checks.same("README.md names " + named, named.matcher(readme).find(), true);
            }
        }
    }

    private static void namesEachTest(String readme) {
        String[] files = new File("src/test/java").list();
        checks.same("there are tests", files != null && files.length > 0, true);
        for (String file : files == null ? new String[0] : files) {
            String name = "`" + file.replace(".java", "") + "`";
            checks.same("README.md names " + name, readme.contains(name), true);
        }
    }
}
