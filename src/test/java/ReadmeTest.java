import java.io.IOException;
import java.lang.reflect.Method;
import java.lang.reflect.Modifier;
import java.nio.file.Files;
import java.nio.file.Path;
import java.util.regex.Matcher;
import java.util.regex.Pattern;

/** README.md: each call of its example answers as it says, and it names every call there is. */
public final class ReadmeTest {

    private static final Pattern EXAMPLE = Pattern.compile("(?s)```java\n(.*?)```");
    private static final Pattern CALL = Pattern.compile(
            "desk\\.(\\w+)\\(([-\\d, ]*)\\); +// (-?\\d+(?:\\.\\d+)?|[A-Z]+)(?:: .*)?");
    private static final Pattern TYPED = Pattern.compile(
            "for \\(char c : \"(.*)\"\\.toCharArray\\(\\)\\) desk\\.type\\(c\\);");

    public static void main(String[] args) throws ReflectiveOperationException, IOException {
        Check.about("README.md");
        String readme = Files.readString(Path.of("README.md"));
        exampleAnswers(readme);
        everyCallIsNamed(readme);
        Check.end();
    }

    private static void exampleAnswers(String readme) throws ReflectiveOperationException {
        Matcher example = EXAMPLE.matcher(readme);
        Check.due("an example", example.find() ? 1 : 0, 1);
        String[] lines = example.group(1).split("\n");
        boolean made = lines[0].equals("AlarmDesk desk = new AlarmDesk();");
        Check.due("a desk at first", made ? 1 : 0, 1);
        AlarmDesk desk = new AlarmDesk();
        for (int k = 1; k < lines.length; k++) {
            Matcher call = CALL.matcher(lines[k]);
            Matcher typed = TYPED.matcher(lines[k]);
            if (call.matches()) {
                double got = answer(desk, call.group(1), call.group(2));
                Check.due(lines[k], got, number(call.group(3)));
            } else if (typed.matches()) {
                type(desk, typed.group(1));
            } else {
                Check.due("lines that are not understood: " + lines[k], 1, 0);
            }
        }
    }

    private static void type(AlarmDesk desk, String script) {
        for (char c : script.toCharArray()) {
            desk.type(c);
        }
    }

    private static double answer(AlarmDesk desk, String name, String arguments)
            throws ReflectiveOperationException {
        String[] texts = arguments.isEmpty() ? new String[0] : arguments.split(", ");
        Class<?>[] types = new Class<?>[texts.length];
        Object[] values = new Object[texts.length];
        for (int k = 0; k < texts.length; k++) {
            types[k] = int.class;
            values[k] = Integer.valueOf(texts[k]);
        }
        Method method = AlarmDesk.class.getMethod(name, types);
        return ((Number) method.invoke(desk, values)).doubleValue();
    }

    private static double number(String due) throws ReflectiveOperationException {
        boolean constant = Character.isLetter(due.charAt(0));
        return constant ? AlarmDesk.class.getField(due).getInt(null) : Double.parseDouble(due);
    }

    private static void everyCallIsNamed(String readme) {
        for (Method method : AlarmDesk.class.getDeclaredMethods()) {
            if (Modifier.isPublic(method.getModifiers())) {
                boolean named = readme.contains("| `" + method.getName() + "(");
                Check.due("a row for " + method.getName() + "()", named ? 1 : 0, 1);
            }
        }
    }
}
