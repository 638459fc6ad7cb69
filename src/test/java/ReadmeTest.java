import java.io.IOException;
import java.lang.reflect.Method;
import java.nio.file.Files;
import java.nio.file.Path;
import java.util.Set;
import java.util.TreeSet;
import java.util.regex.Matcher;
import java.util.regex.Pattern;

/** The examples of README.md, as one run on one object, and that they show each part of the document. */
public final class ReadmeTest {
    private static final Pattern EXAMPLE = Pattern.compile("x\\.(\\w+)\\(([^)]*)\\);\\s+// (\\S+)");
    private static final Check CHECK = new Check();

    public static void main(String[] args) throws IOException, ReflectiveOperationException {
        Bindery x = new Bindery();
        Set<String> shown = new TreeSet<>();
        for (String line : Files.readAllLines(Path.of("README.md"))) {
            if (!line.startsWith("x.")) {
                continue;
            }
            Matcher example = EXAMPLE.matcher(line);
            CHECK.holds("README: an example with its answer: " + line, example.matches());
            if (example.matches()) {
                CHECK.due("README: " + line, answer(x, example.group(1), example.group(2)), due(example.group(3)));
                shown.add(example.group(1));
            }
        }
        for (Method method : Bindery.class.getMethods()) {
            if (method.getDeclaringClass() == Bindery.class) {
                CHECK.holds("README shows " + method.getName(), shown.contains(method.getName()));
            }
        }
        CHECK.end();
    }

    private static int answer(Bindery x, String name, String arguments) throws ReflectiveOperationException {
        String[] written = arguments.isEmpty() ? new String[0] : arguments.split(", ");
        Class<?>[] types = new Class<?>[written.length];
        Object[] values = new Object[written.length];
        for (int i = 0; i < written.length; i++) {
            types[i] = int.class;
            values[i] = number(written[i]);
        }
        return (Integer) Bindery.class.getMethod(name, types).invoke(x, values);
    }

    private static int due(String written) throws ReflectiveOperationException {
        return Character.isUpperCase(written.charAt(0)) ? Bindery.class.getField(written).getInt(null) : number(written);
    }

    private static int number(String written) {
        return written.startsWith("0b") ? Integer.parseInt(written.substring(2), 2) : Integer.parseInt(written);
    }
}
