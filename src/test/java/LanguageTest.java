import java.io.IOException;
import java.lang.management.ManagementFactory;
import java.lang.reflect.Constructor;
import java.lang.reflect.Field;
import java.lang.reflect.Method;
import java.lang.reflect.Modifier;
import java.nio.file.Files;
import java.nio.file.Path;
import java.util.Set;
import java.util.TreeSet;
import java.util.regex.Matcher;
import java.util.regex.Pattern;

/** Rules of LANGUAGE.md that a test can see: the face, words that are not in the language, sizes, the room. */
public final class LanguageTest {
    private static final Check CHECK = new Check();
    private static final String FACE = """
        int feed(int)
        int street()
        int fault()
        int told(int)
        int gap(int,int)
        int walker(int,int)
        int go(int,int)
        int rope(int,boolean)
        int minute(int)
        int drift(int)
        int undo(int)
        int apart(int,int)
        int howLong(int)
        int takes(int,int,int,int)
        int setOut(int,int,int,int,int)
        int comes(int,int)
        int meets(int,int)
        int ropes(int,int,int,int)
        int doctor(int,int)
        int beat(int)
        int rent(int)
        int lamp(int,int)
        int met(int,int)
        int fits(int)
        int growths()
        int lookAt()
        int write(int,int)
        int judge()
        int tear()
        int seed(int)
        int keep(int)
        int goBack(int)
        """;

    private static String signature(Method m) {
        StringBuilder s = new StringBuilder(m.getReturnType().getSimpleName()).append(' ').append(m.getName()).append('(');
        String comma = "";
        for (Class<?> type : m.getParameterTypes()) {
            s.append(comma).append(type.getSimpleName());
            comma = ",";
        }
        return s.append(')').toString();
    }

    private static void face() {
        Set<String> want = new TreeSet<>(FACE.lines().toList());
        Set<String> got = new TreeSet<>();
        Set<String> names = new TreeSet<>();
        for (Method m : NightStreet.class.getDeclaredMethods()) {
            if (Modifier.isPublic(m.getModifiers())) {
                got.add(signature(m));
                names.add(m.getName());
                CHECK.isTrue(m + " is not static", !Modifier.isStatic(m.getModifiers()));
            } else {
                CHECK.isTrue(m + " is private", Modifier.isPrivate(m.getModifiers()));
            }
        }
        CHECK.isTrue("the face is " + got, want.equals(got));
        for (Method m : NightStreet.class.getDeclaredMethods()) {
            CHECK.isTrue(m + " bears no public name", Modifier.isPublic(m.getModifiers()) || !names.contains(m.getName()));
        }
        for (Class<?> inner : NightStreet.class.getDeclaredClasses()) {
            CHECK.isTrue(inner + " is static", Modifier.isStatic(inner.getModifiers()));
            CHECK.isTrue(inner + " is not seen", !Modifier.isPublic(inner.getModifiers()) && !Modifier.isProtected(inner.getModifiers()));
            for (Method m : inner.getDeclaredMethods()) {
                CHECK.isTrue(m + " bears no public name", !names.contains(m.getName()));
                CHECK.isTrue(m + " has at most seven parameters", m.getParameterCount() <= 7);
            }
        }
        CHECK.isTrue("final", Modifier.isFinal(NightStreet.class.getModifiers()));
        Constructor<?>[] made = NightStreet.class.getDeclaredConstructors();
        CHECK.isTrue("one public constructor", made.length == 1 && Modifier.isPublic(made[0].getModifiers())
                && made[0].getParameterCount() == 0);
    }

    private static void constantsAndFields() {
        Set<String> open = new TreeSet<>();
        for (Field f : NightStreet.class.getDeclaredFields()) {
            if (!Modifier.isPrivate(f.getModifiers())) {
                open.add(f.getName());
                CHECK.isTrue(f + " is a public constant", f.getModifiers() == (Modifier.PUBLIC | Modifier.STATIC | Modifier.FINAL));
            }
        }
        CHECK.isTrue("constants are " + open, open.equals(new TreeSet<>(Set.of("NONE", "UNKNOWN", "OUTSIDE", "NOT", "FULL"))));
        CHECK.due("NONE", NightStreet.NONE, Check.NONE);
        CHECK.due("UNKNOWN", NightStreet.UNKNOWN, Check.UNKNOWN);
        CHECK.due("OUTSIDE", NightStreet.OUTSIDE, Check.OUTSIDE);
        CHECK.due("NOT", NightStreet.NOT, Check.NOT);
        CHECK.due("FULL", NightStreet.FULL, Check.FULL);
        sizesOf(NightStreet.class);
        Class<?>[] inner = NightStreet.class.getDeclaredClasses();
        for (Class<?> one : inner) {
            sizesOf(one);
        }
        CHECK.isTrue("at most twelve classes", inner.length + 1 <= 12);
    }

    private static void sizesOf(Class<?> one) {
        int fields = 0;
        for (Field f : one.getDeclaredFields()) {
            boolean isStatic = Modifier.isStatic(f.getModifiers());
            fields += isStatic ? 0 : 1;
            CHECK.isTrue(f + " is final if static", !isStatic || Modifier.isFinal(f.getModifiers()));
        }
        CHECK.isTrue(one + " has at most twenty fields", fields <= 20);
    }

    private static void words() throws IOException {
        String source = Files.readString(Path.of("src/main/java/NightStreet.java"));
        String bare = source.replaceAll("(?s)/\\*.*?\\*/", "").replaceAll("//[^\\n]*", "");
        String[] banned = {"throw", "throws", "try", "catch", "finally", "synchronized", "assert", "package", "import", "new Random",
            "System.out", "String\\.format", "hashCode", "equals", "toString", "volatile", "native", "->", "::", "Exact\\("};
        for (String word : banned) {
            Matcher found = Pattern.compile(word.matches("\\w.*\\w") ? "\\b" + word + "\\b" : word).matcher(bare);
            CHECK.isTrue("no " + word, !found.find());
        }
        int start = 0;
        int line = 0;
        for (String text : bare.split("\n", -1)) {
            line++;
            if (text.matches(" {4}(?: {4})?\\S.*\\) \\{")) {
                start = line;
            }
            if (text.matches(" {4}(?: {4})?\\}")) {
                CHECK.isTrue("sixty lines at most, to line " + line, line - start <= 60);
            }
        }
    }

    private static long allocated() {
        return ((com.sun.management.ThreadMXBean) ManagementFactory.getThreadMXBean()).getCurrentThreadAllocatedBytes();
    }

    /** No call makes an object; a new one has a few rows and some thousand cells. */
    private static void room() {
        NightStreet[] all = new NightStreet[200];
        long before = allocated();
        for (int i = 0; i < all.length; i++) {
            all[i] = new NightStreet();
        }
        long each = (allocated() - before) / all.length;
        CHECK.isTrue("a new object has " + each + " bytes", each < 10000);
        char[] text = "s60 40 1;h60,60,60,60,60,60,60,60;w0 1;w8 40;w4 3;w4 3;r1;".toCharArray();
        long answers = everyCall(all[0], text);
        before = allocated();
        answers += everyCall(all[1], text);
        long bytes = allocated() - before;
        CHECK.isTrue("all calls made " + bytes + " bytes (" + answers + ")", bytes < 1000);
    }

    private static long everyCall(NightStreet x, char[] text) {
        long sum = 0;
        for (char c : text) {
            sum += x.feed(c);
        }
        sum += x.street() + x.fault() + x.told(0) + x.gap(0, 1) + x.walker(0, 5);
        sum += x.go(0, 2) + x.rope(0, true) + x.minute(60) + x.drift(60) + x.undo(30);
        sum += x.apart(0, 1) + x.howLong(3) + x.takes(0, 8, 1, 0) + x.setOut(0, 8, 1, 119, 2) + x.comes(0, 8) + x.meets(0, 1);
        sum += x.ropes(0, 8, 1, 300) + x.doctor(1, 0) + x.beat(1) + x.rent(120) + x.lamp(60, 1);
        sum += x.met(0, 100) + x.fits(0) + x.growths() + x.lookAt() + x.write(0, 0) + x.judge() + x.tear();
        return sum + x.seed(1) + x.keep(0) + x.goBack(0);
    }

    public static void main(String[] args) throws IOException {
        face();
        constantsAndFields();
        words();
        room();
        CHECK.end();
    }
}
