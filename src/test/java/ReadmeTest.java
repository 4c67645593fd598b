import java.io.File;
import java.io.IOException;
import java.lang.reflect.Field;
import java.lang.reflect.Method;
import java.lang.reflect.Modifier;
import java.nio.file.Files;
import java.nio.file.Path;
import java.util.List;
import java.util.regex.Matcher;
import java.util.regex.Pattern;

/** README.md keeps its word: its examples answer what it says, and it names every method, constant and test. */
final class ReadmeTest {
    private static final Due DUE = new Due("ReadmeTest");
    private static final Pattern CALL = Pattern.compile("x\\.(\\w+)\\(([^)]*)\\); +// (-?\\d+)(:.*)?");
    private static final String NEW = "AheadRows x = new AheadRows();";

    public static void main(String[] args) throws IOException, ReflectiveOperationException {
        List<String> lines = Files.readAllLines(Path.of("README.md"));
        examplesAnswerAsTold(lines);
        everythingIsNamed(String.join("\n", lines));
        DUE.end();
    }

    private static void examplesAnswerAsTold(List<String> lines) throws ReflectiveOperationException {
        AheadRows x = null;
        boolean inExample = false;
        for (String line : lines) {
            if (line.startsWith("```")) {
                inExample = line.equals("```java");
                x = null;
            } else if (inExample && line.equals(NEW)) {
                x = new AheadRows();
            } else if (inExample) {
                Matcher call = CALL.matcher(line);
                boolean isCall = x != null && call.matches();
                DUE.holds("README.md has a call with its answer here: " + line, isCall);
                if (isCall) {
                    DUE.is(line, answer(x, call.group(1), call.group(2)), Long.parseLong(call.group(3)));
                }
            }
        }
    }

    private static long answer(AheadRows x, String name, String list) throws ReflectiveOperationException {
        String[] texts = list.isEmpty() ? new String[0] : list.split(", ");
        Object[] values = new Object[texts.length];
        Class<?>[] types = new Class<?>[texts.length];
        for (int i = 0; i < texts.length; i++) {
            values[i] = texts[i].startsWith("'") ? (int) texts[i].charAt(1) : Integer.parseInt(texts[i]);
            types[i] = int.class;
        }
        return ((Number) AheadRows.class.getMethod(name, types).invoke(x, values)).longValue();
    }

    private static void everythingIsNamed(String page) {
        for (Method method : AheadRows.class.getDeclaredMethods()) {
            if (Modifier.isPublic(method.getModifiers())) names(page, method.getName());
        }
        for (Field field : AheadRows.class.getFields()) names(page, field.getName());
        String[] files = new File("src/test/java").list();
        DUE.holds("the tests are found", files != null && files.length > 0);
        for (String file : files == null ? new String[0] : files) {
            if (file.endsWith("Test.java")) names(page, file.replace(".java", ""));
        }
        DUE.holds("README.md says that .ci/run runs the tests", page.contains("\n    .ci/run\n"));
    }

    private static void names(String page, String name) {
        DUE.holds("README.md names `" + name + "`", page.contains("`" + name + "`"));
    }
}
