import java.io.IOException;
import java.lang.reflect.Method;
import java.lang.reflect.Modifier;
import java.nio.file.Files;
import java.nio.file.Path;
import java.util.List;
import java.util.Set;
import java.util.TreeSet;
import java.util.regex.Matcher;
import java.util.regex.Pattern;
import java.util.stream.Stream;

/** README.md: its lines of Java answer what their comments say, and it names every call and every test. */
public final class ReadmeTest {
    private static final Check CHECK = new Check();
    private static final Pattern TOLD = Pattern.compile("for \\(char c : \"([^\"]*)\"\\.toCharArray\\(\\)\\) \\{");
    private static final Pattern ASKED = Pattern.compile("x\\.(\\w+)\\(([^)]*)\\);\\s+// (-?\\d+).*");
    private static final Set<String> REST = Set.of("    x.feed(c);", "}", "");

    private NightStreet x;
    private final Set<String> called = new TreeSet<>();

    private static Method callNamed(String name) {
        for (Method m : NightStreet.class.getDeclaredMethods()) {
            if (m.getName().equals(name) && Modifier.isPublic(m.getModifiers())) {
                return m;
            }
        }
        return null;
    }

    private static Object valueOf(String argument, Class<?> type) {
        return type == boolean.class ? (Object) Boolean.valueOf(argument) : (Object) Integer.valueOf(argument);
    }

    private void ask(String line, Matcher asked) throws ReflectiveOperationException {
        Method call = callNamed(asked.group(1));
        String[] words = asked.group(2).isEmpty() ? new String[0] : asked.group(2).split(", ");
        if (call == null || call.getParameterCount() != words.length) {
            CHECK.isTrue("there is a call as in: " + line, false);
            return;
        }
        Object[] values = new Object[words.length];
        for (int i = 0; i < words.length; i++) {
            values[i] = valueOf(words[i], call.getParameterTypes()[i]);
        }
        called.add(call.getName());
        CHECK.due(line, (Integer) call.invoke(x, values), Integer.parseInt(asked.group(3)));
    }

    /** A line that is none of the forms here would not be looked at, so it counts as wrong. */
    private void runLine(String line) throws ReflectiveOperationException {
        Matcher told = TOLD.matcher(line);
        Matcher asked = ASKED.matcher(line);
        if (line.equals("NightStreet x = new NightStreet();")) {
            x = new NightStreet();
        } else if (told.matches()) {
            Check.feedAll(x, told.group(1));
            called.add("feed");
        } else if (asked.matches()) {
            ask(line, asked);
        } else {
            CHECK.isTrue("the line can be run: " + line, REST.contains(line));
        }
    }

    private void runAll(List<String> lines) throws ReflectiveOperationException {
        boolean isJava = false;
        for (String line : lines) {
            if (line.startsWith("```")) {
                isJava = line.equals("```java");
            } else if (isJava) {
                runLine(line);
            }
        }
        for (Method m : NightStreet.class.getDeclaredMethods()) {
            if (Modifier.isPublic(m.getModifiers())) {
                CHECK.isTrue("README.md shows " + m.getName(), called.contains(m.getName()));
            }
        }
    }

    /** Names that end in EdgeTest stand there too, each by its own. */
    private static void namesTests(String all) throws IOException {
        try (Stream<Path> files = Files.list(Path.of("src/test/java"))) {
            for (String name : files.map(f -> f.getFileName().toString()).filter(n -> n.endsWith("Test.java")).sorted().toList()) {
                CHECK.isTrue("README.md names " + name, all.contains("`" + name.replace(".java", "") + "`"));
            }
        }
    }

    public static void main(String[] args) throws IOException, ReflectiveOperationException {
        Path readme = Path.of("README.md");
        new ReadmeTest().runAll(Files.readAllLines(readme));
        namesTests(Files.readString(readme));
        CHECK.end();
    }
}
