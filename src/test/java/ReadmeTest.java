import java.io.IOException;
import java.lang.reflect.Method;
import java.lang.reflect.Modifier;
import java.nio.file.Files;
import java.nio.file.Path;
import java.util.regex.Matcher;
import java.util.regex.Pattern;

/** What README.md says of the use: its example answers what stands behind each line, its table is whole. */
public final class ReadmeTest {
    private static final Checks CHECKS = new Checks("readme");
    private static final Path README = Path.of("README.md");
    private static final Pattern MADE = Pattern.compile("PagedKernel kernel = new PagedKernel\\((\\d+), (\\d+)\\);.*");
    private static final Pattern CALLED = Pattern.compile("kernel\\.(\\w+)\\(([^)]*)\\); *// (true|false|-?\\d+)(:.*)?");

    public static void main(String[] args) throws ReflectiveOperationException, IOException {
        String text = Files.readString(README);
        example(text);
        table(text);
        CHECKS.finish();
    }

    private static void example(String text) throws ReflectiveOperationException {
        int begin = text.indexOf("```java\n") + "```java\n".length();
        String[] lines = text.substring(begin, text.indexOf("```\n", begin)).split("\n");
        Matcher made = MADE.matcher(lines[0]);
        CHECKS.due("the example begins with a new object", made.matches(), true);
        PagedKernel kernel = new PagedKernel(Integer.parseInt(made.group(1)), Integer.parseInt(made.group(2)));
        for (int i = 1; i < lines.length; i++) {
            Matcher called = CALLED.matcher(lines[i]);
            boolean readable = called.matches();
            CHECKS.due("a call with its answer: " + lines[i], readable, true);
            if (readable) {
                CHECKS.dueText(lines[i], answer(kernel, called.group(1), called.group(2)), called.group(3));
            }
        }
    }

    private static String answer(PagedKernel kernel, String name, String written) throws ReflectiveOperationException {
        String[] parts = written.isEmpty() ? new String[0] : written.split(", ");
        Object[] values = new Object[parts.length];
        Class<?>[] types = new Class<?>[parts.length];
        for (int i = 0; i < parts.length; i++) {
            values[i] = Integer.decode(parts[i]);
            types[i] = int.class;
        }
        return PagedKernel.class.getMethod(name, types).invoke(kernel, values).toString();
    }

    private static void table(String text) {
        for (Method method : PagedKernel.class.getDeclaredMethods()) {
            if (Modifier.isPublic(method.getModifiers())) {
                CHECKS.due("the table has " + method.getName(), text.contains("\n| `" + method.getName() + "("), true);
            }
        }
        CHECKS.due("the table has the constructor", text.contains("\n| `new PagedKernel("), true);
    }
}
