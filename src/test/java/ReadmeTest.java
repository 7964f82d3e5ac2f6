import java.io.IOException;
import java.lang.reflect.InvocationTargetException;
import java.lang.reflect.Method;
import java.lang.reflect.Modifier;
import java.nio.charset.StandardCharsets;
import java.nio.file.Files;
import java.nio.file.Path;
import java.util.regex.Matcher;
import java.util.regex.Pattern;

/** README.md's example answers as the page says, and the page names each call and each test. */
public final class ReadmeTest {
    private static final Path PAGE = Path.of("README.md");
    private static final Path TESTS = Path.of("src/test/java");
    /** A call, and behind it what it answers, up to a comma. */
    private static final Pattern LINE = Pattern.compile("x\\.(\\w+)\\(([^)]*)\\);\\s+// ([^,]+)(, .*)?");

    private final Check check = new Check();
    private final Exportcover x = new Exportcover();
    private final String page;

    private ReadmeTest(String page) {
        this.page = page;
    }

    public static void main(String[] args) throws IOException, ReflectiveOperationException {
        ReadmeTest test = new ReadmeTest(Files.readString(PAGE, StandardCharsets.UTF_8));
        test.runExample();
        test.dueAllCallsNamed();
        test.dueAllTestsNamed();
        test.check.end();
    }

    private void runExample() throws ReflectiveOperationException {
        int begin = page.indexOf("```java\n");
        int end = page.indexOf("```", begin + 3);
        check.due("there is an example", begin >= 0 && end > begin, true);
        String[] lines = page.substring(begin, end).split("\n");
        check.due("an object is made", lines[1], "Exportcover x = new Exportcover();");
        for (int i = 2; i < lines.length; i++) {
            Matcher line = LINE.matcher(lines[i]);
            check.due("\"" + lines[i] + "\" is a call with its answer", line.matches(), true);
            if (line.matches()) {
                check.due(lines[i], answerOf(line.group(1), line.group(2)), line.group(3));
            }
        }
    }

    /** An exception answers its name. */
    private String answerOf(String name, String arguments) throws ReflectiveOperationException {
        Method method = methodOf(name);
        String[] texts = arguments.isEmpty() ? new String[0] : arguments.split(", ");
        Object[] values = new Object[texts.length];
        for (int i = 0; i < texts.length; i++) {
            boolean isFlag = method.getParameterTypes()[i] == boolean.class;
            values[i] = isFlag ? (Object) Boolean.valueOf(texts[i]) : (Object) Integer.valueOf(texts[i]);
        }
        try {
            return String.valueOf(method.invoke(x, values));
        } catch (InvocationTargetException thrown) {
            return thrown.getCause().getClass().getSimpleName();
        }
    }

    private static Method methodOf(String name) throws NoSuchMethodException {
        for (Method each : Exportcover.class.getDeclaredMethods()) {
            if (each.getName().equals(name) && Modifier.isPublic(each.getModifiers())) {
                return each;
            }
        }
        throw new NoSuchMethodException(name);
    }

    private void dueAllCallsNamed() {
        for (Method each : Exportcover.class.getDeclaredMethods()) {
            if (Modifier.isPublic(each.getModifiers())) {
                check.due(each.getName() + " is named", page.contains('`' + each.getName() + '`'), true);
            }
        }
    }

    private void dueAllTestsNamed() {
        for (String file : TESTS.toFile().list()) {
            boolean isNamed = page.contains("| `" + file.replace(".java", "") + "` |");
            check.due(file + " is named", isNamed || !file.endsWith("Test.java"), true);
        }
    }
}
