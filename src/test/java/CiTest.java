import java.io.File;
import java.io.IOException;
import java.nio.file.Files;
import java.nio.file.Path;
import java.nio.file.StandardCopyOption;
import java.util.Comparator;
import java.util.List;
import java.util.stream.Stream;

/** What README.md says of .ci/run: it is run on small projects of this test's own, good and bad ones, each beside a shared of its own. */
public final class CiTest {
    private static final Check CHECK = new Check();
    private static final String ENDS_WITH = "{ public static void main(String[] args) { System.exit(new NightStreet().answer()%s 7 ? 0 : 1); } }\n";

    private final Path root;

    private CiTest(Path root) {
        this.root = root;
    }

    private void put(String name, String text) throws IOException {
        Path file = root.resolve(name);
        Files.createDirectories(file.getParent());
        Files.writeString(file, text);
    }

    private void putTest(String name, boolean passes) throws IOException {
        String className = Path.of(name).getFileName().toString().replace(".java", "");
        put(name, "public final class " + className + " " + String.format(ENDS_WITH, passes ? " ==" : " !="));
    }

    /** One own test and one shared test, both passing. */
    private CiTest asGood() throws IOException {
        Path script = root.resolve("main/.ci/run");
        Files.createDirectories(script.getParent());
        Files.createDirectories(root.resolve("tmp"));
        Files.copy(Path.of(".ci/run"), script, StandardCopyOption.COPY_ATTRIBUTES);
        put("main/src/main/java/NightStreet.java", "public final class NightStreet { public int answer() { return 7; } }\n");
        putTest("main/src/test/java/OwnTest.java", true);
        putTest("shared/tests/Shared.java", true);
        return this;
    }

    private CiTest without(String name) throws IOException {
        Files.delete(root.resolve(name));
        return this;
    }

    private CiTest with(String name, boolean passes) throws IOException {
        putTest(name, passes);
        return this;
    }

    private CiTest withText(String name, String text) throws IOException {
        put(name, text);
        return this;
    }

    /** Called from a directory that is not the checkout. */
    private void ends(String what, boolean isGood) throws IOException, InterruptedException {
        File printed = root.resolve("printed").toFile();
        ProcessBuilder builder = new ProcessBuilder("bash", root.resolve("main/.ci/run").toString());
        builder.directory(root.toFile()).redirectErrorStream(true).redirectOutput(printed);
        builder.environment().put("TMPDIR", root.resolve("tmp").toString());
        int code = builder.start().waitFor();
        CHECK.isTrue(".ci/run with " + what + " ends with " + code + ":\n" + Files.readString(printed.toPath()), code == 0 == isGood);
        try (Stream<Path> left = Files.list(root.resolve("tmp"))) {
            CHECK.due(".ci/run with " + what + " leaves files", left.filter(f -> !f.getFileName().toString().startsWith("hsperf")).count(), 0);
        }
        delete();
    }

    private void delete() throws IOException {
        List<Path> all;
        try (Stream<Path> walk = Files.walk(root)) {
            all = walk.sorted(Comparator.reverseOrder()).toList();
        }
        for (Path file : all) {
            Files.delete(file);
        }
    }

    private static CiTest project() throws IOException {
        return new CiTest(Files.createTempDirectory("night")).asGood();
    }

    public static void main(String[] args) throws IOException, InterruptedException {
        project().ends("tests that pass", true);
        project().without("shared/tests/Shared.java").ends("no shared test", false);
        project().without("main/src/test/java/OwnTest.java").withText("main/src/test/java/Help.java", "final class Help { }\n")
                .ends("no test of its own", false);
        project().with("main/src/test/java/BadTest.java", false).ends("a test of its own that fails", false);
        project().with("shared/tests/Bad.java", false).ends("a shared test that fails", false);
        project().with("shared/tests/below/Bad.java", false).ends("a shared test that fails, in a directory below", false);
        project().with("shared/tests/below/Shared.java", true).ends("two shared tests of one name", true);
        project().withText("shared/tests/Bad.java", "public final class Bad { int x = new NightStreet(1); }\n")
                .ends("a shared test that cannot be compiled", false);
        project().withText("main/src/test/java/Help.java", "final class Help { int x = (int) 1; }\n").ends("a warning", false);
        CHECK.end();
    }
}
