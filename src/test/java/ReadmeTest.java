import java.io.File;
import java.io.IOException;
import java.lang.reflect.InvocationTargetException;
import java.lang.reflect.Method;
import java.lang.reflect.Modifier;
import java.nio.file.Files;
import java.nio.file.Path;
import java.util.regex.Matcher;
import java.util.regex.Pattern;

/** What README.md shows is true: its example is called line by line, and its tables leave nothing out. */
public final class ReadmeTest {

    private static final Pattern CALL =
            Pattern.compile("(?m)^hall\\.(\\w+)\\(([-\\d, ]*)\\); +// (\"[^\"]*\"|\\S+)( - .*)?$");

    public static void main(String[] args) throws IOException, ReflectiveOperationException {
        String text = Files.readString(Path.of("README.md"));
        theExample(text);
        theTableOfCalls(text);
        theTableOfTests(text);
        Checks.finish();
    }

    private static void theExample(String text) throws ReflectiveOperationException {
        TaflHall hall = new TaflHall();
        Matcher line = CALL.matcher(text);
        int lines = 0;
        while (line.find()) {
            String call = line.group(1) + "(" + line.group(2) + ")";
            Checks.same("README.md's " + call, answer(hall, line.group(1), line.group(2)), line.group(3));
            lines++;
        }
        Checks.same("each line of the example was called", lines, text.split("\nhall\\.", -1).length - 1);
        Checks.same("there is an example", lines > 0, true);
    }

    private static String answer(TaflHall hall, String name, String numbers) throws ReflectiveOperationException {
        String[] parts = numbers.isEmpty() ? new String[0] : numbers.split(", *");
        Class<?>[] types = new Class<?>[parts.length];
        Object[] values = new Object[parts.length];
        for (int i = 0; i < parts.length; i++) {
            types[i] = int.class;
            values[i] = Integer.valueOf(parts[i]);
        }
        try {
            Object answer = TaflHall.class.getMethod(name, types).invoke(hall, values);
            return answer instanceof String ? "\"" + answer + "\"" : String.valueOf(answer);
        } catch (InvocationTargetException e) {
            return e.getCause().getClass().getSimpleName();
        }
    }

    private static void theTableOfCalls(String text) {
        for (Method method : TaflHall.class.getDeclaredMethods()) {
            if (Modifier.isPublic(method.getModifiers())) {
                Matcher row = Pattern.compile("(?m)^\\| `" + method.getName() + "\\(([^)]*)\\)` \\|").matcher(text);
                boolean found = row.find();
                Checks.same("the table has " + method.getName(), found, true);
                if (found) {
                    int names = row.group(1).isEmpty() ? 0 : row.group(1).split(",").length;
                    Checks.same("the arguments of " + method.getName(), names, method.getParameterCount());
                }
            }
        }
    }

    private static void theTableOfTests(String text) {
        String[] files = new File("src/test/java").list((folder, name) -> name.endsWith("Test.java"));
        for (String file : files) {
            String name = file.replace(".java", "");
            Checks.same("the table has " + name, text.contains("| " + name + " |"), true);
        }
    }
}
