import java.io.IOException;
import java.lang.reflect.Method;
import java.nio.file.Files;
import java.nio.file.Path;
import java.util.Set;
import java.util.TreeSet;
import java.util.regex.Matcher;
import java.util.regex.Pattern;

/** The example of README.md is a run of calls with their answers: each must answer just that. */
public final class ReadmeTest {
    private static final Pattern EXAMPLE = Pattern.compile("(?s)```java\n(.*?)```");
    private static final Pattern LINE = Pattern.compile("(?m)^school\\.(\\w+)\\(([^)]*)\\); +// (-?\\d+)\\b");

    private static Method method(String name) {
        for (Method m : SnowSchool.class.getDeclaredMethods()) {
            if (m.getName().equals(name)) {
                return m;
            }
        }
        throw new IllegalArgumentException("no such call: " + name);
    }

    private static Object[] arguments(String text) {
        String[] parts = text.isBlank() ? new String[0] : text.split(", ");
        Object[] arguments = new Object[parts.length];
        for (int i = 0; i < parts.length; i++) {
            boolean isNumber = parts[i].matches("-?\\d+");
            arguments[i] = isNumber ? (Object) Integer.valueOf(parts[i]) : (Object) Boolean.valueOf(parts[i]);
        }
        return arguments;
    }

    public static void main(String[] args) throws IOException, ReflectiveOperationException {
        Matcher example = EXAMPLE.matcher(Files.readString(Path.of("README.md")));
        String text = example.find() ? example.group(1) : "";
        SnowSchool school = new SnowSchool();
        Set<String> names = new TreeSet<>();
        int wrong = 0;
        int calls = 0;
        Matcher line = LINE.matcher(text);
        while (line.find()) {
            calls++;
            names.add(line.group(1));
            int due = Integer.parseInt(line.group(3));
            int got = (Integer) method(line.group(1)).invoke(school, arguments(line.group(2)));
            if (got != due) {
                wrong++;
                System.out.println(line.group() + " answered " + got);
            }
        }
        long written = text.lines().filter(l -> l.startsWith("school.")).count();
        if (calls == 0 || calls != written) {
            wrong++;
            System.out.println("README.md has " + written + " calls, of which " + calls + " could be read");
        }
        System.out.println(calls + " calls (" + names.size() + " names), " + wrong + " not as README.md says");
        if (wrong != 0) {
            System.exit(1);
        }
    }
}
