import java.lang.reflect.InvocationTargetException;
import java.lang.reflect.Method;
import java.lang.reflect.Modifier;
import java.nio.charset.StandardCharsets;
import java.nio.file.Files;
import java.nio.file.Path;
import java.util.regex.Matcher;
import java.util.regex.Pattern;

/** What README.md shows is what the class does: each call in its examples is made. Run from the project's root. */
final class ReadmeTest {
    private static final Pattern EXAMPLE = Pattern.compile("(?ms)^```java\n(.*?)^```$");
    private static final Pattern CALL = Pattern.compile("holes\\.(\\w+)\\(([^)]*)\\);\\s*// ([-\\w]+).*");
    private static final String NEW_OBJECT = "FilledHoles holes = new FilledHoles();";

    public static void main(String[] args) throws java.io.IOException {
        String page = Files.readString(Path.of("README.md"), StandardCharsets.UTF_8);
        Matcher examples = EXAMPLE.matcher(page);
        int found = 0;
        while (examples.find()) {
            found++;
            makeCalls(examples.group(1).split("\n"));
        }
        Check.due("there are examples", 1, found > 0 ? 1 : 0);
        for (Method method : FilledHoles.class.getDeclaredMethods()) {
            if (Modifier.isPublic(method.getModifiers())) {
                Check.due("the page names " + method.getName(), 1,
                        page.contains("`" + method.getName() + "`") ? 1 : 0);
            }
        }
        Check.end();
    }

    private static void makeCalls(String[] lines) {
        Check.same("an example's first line", NEW_OBJECT, lines[0]);
        FilledHoles holes = new FilledHoles();
        for (int i = 1; i < lines.length; i++) {
            Matcher call = CALL.matcher(lines[i]);
            if (call.matches()) {
                Check.same(lines[i], call.group(3), answer(holes, call.group(1), call.group(2)));
            } else {
                Check.same("a line of an example", "a call and its answer", lines[i]);
            }
        }
    }

    /** The answer, or the name of what was thrown. */
    private static String answer(FilledHoles holes, String name, String arguments) {
        String[] parts = arguments.isEmpty() ? new String[0] : arguments.split(", ");
        Object[] numbers = new Object[parts.length];
        for (int i = 0; i < parts.length; i++) {
            numbers[i] = Long.decode(parts[i]).intValue();
        }
        try {
            for (Method method : FilledHoles.class.getDeclaredMethods()) {
                if (method.getName().equals(name) && Modifier.isPublic(method.getModifiers())
                        && method.getParameterCount() == parts.length) {
                    return String.valueOf(method.invoke(holes, numbers));
                }
            }
            return "there is no such call";
        } catch (InvocationTargetException e) {
            return e.getCause().getClass().getSimpleName();
        } catch (IllegalAccessException e) {
            return "the call can't be seen";
        }
    }
}
