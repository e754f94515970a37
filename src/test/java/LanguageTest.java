import java.io.IOException;
import java.lang.management.ManagementFactory;
import java.lang.reflect.Field;
import java.lang.reflect.Method;
import java.lang.reflect.Modifier;
import java.nio.file.Files;
import java.nio.file.Path;
import java.util.Set;
import java.util.TreeSet;
import java.util.regex.Matcher;
import java.util.regex.Pattern;

/** What LANGUAGE.md and the room that all calls share ask of the class, as far as a test can see it. */
public final class LanguageTest {
    private static final String[] BARRED = {
        "throw", "throws", "try", "catch", "finally", "synchronized", "assert", "goto", "var", "->", "::", "import static",
        "String.format", "System.out", "System.nanoTime", "System.currentTimeMillis", "Random", "Thread", "Exact", "volatile"
    };
    private static final Set<String> FACE = Set.of(
        "tank", "wall", "fill", "feed", "draw", "lean", "carrier", "run", "tell", "way", "wayTold", "go", "level", "flow",
        "tankTold", "kindTold", "feedTold", "pulls", "count", "beside", "worstFill", "walls", "wallsPull", "drawOrder",
        "record", "bar", "fits", "image", "back", "sheet", "cell", "copy", "tanks", "taken");

    public static void main(String[] args) throws IOException {
        String source = Files.readString(Path.of("src/main/java/SloshTank.java"));
        barredWords(source);
        imports(source);
        face();
        sizes();
        lengths(source);
        room();
        Checks.end("LanguageTest");
    }

    private static String withoutComments(String source) {
        return source.replaceAll("(?s)/\\*.*?\\*/", " ").replaceAll("//[^\n]*", " ");
    }

    private static void barredWords(String source) {
        String code = withoutComments(source);
        for (String word : BARRED) {
            boolean isName = Character.isLetter(word.charAt(0));
            Pattern found = Pattern.compile(isName ? "\\b" + Pattern.quote(word) + "\\b" : Pattern.quote(word));
            Checks.holds("no " + word, !found.matcher(code).find());
        }
        Checks.holds("no package line", !Pattern.compile("(?m)^package\\b").matcher(code).find());
        Checks.holds("plain signs", source.chars().allMatch(c -> c < 128));
    }

    private static void imports(String source) {
        Matcher line = Pattern.compile("(?m)^import ([^;]*);").matcher(source);
        while (line.find()) {
            Checks.holds("import " + line.group(1), line.group(1).equals("java.util.Arrays"));
        }
    }

    private static void face() {
        Set<String> told = new TreeSet<>();
        for (Method m : SloshTank.class.getDeclaredMethods()) {
            int is = m.getModifiers();
            Checks.holds(m.getName() + " is public just if it is told", Modifier.isPublic(is) == FACE.contains(m.getName()));
            Checks.holds(m.getName() + " is public or private", Modifier.isPublic(is) || Modifier.isPrivate(is));
            told.add(m.getName());
        }
        Checks.holds("all of the face", told.containsAll(FACE));
        Set<String> constants = Set.of("NONE", "BAD", "STATE", "FULL", "NO");
        for (Field f : SloshTank.class.getDeclaredFields()) {
            int is = f.getModifiers();
            Checks.holds(f.getName() + " is told", Modifier.isPublic(is) == constants.contains(f.getName()));
            Checks.holds(f.getName() + " is public or private", Modifier.isPublic(is) || Modifier.isPrivate(is));
        }
        for (Class<?> c : SloshTank.class.getDeclaredClasses()) {
            Checks.holds(c.getName() + " is static", Modifier.isStatic(c.getModifiers()));
            for (Method m : c.getDeclaredMethods()) {
                Checks.holds(m.getName() + " inside bears no public one's name", !FACE.contains(m.getName()));
            }
        }
        Checks.holds("some twelve classes", SloshTank.class.getDeclaredClasses().length < 12);
    }

    private static void sizes() {
        sizesOf(SloshTank.class);
        for (Class<?> c : SloshTank.class.getDeclaredClasses()) {
            sizesOf(c);
        }
    }

    private static void sizesOf(Class<?> c) {
        int fields = 0;
        for (Field f : c.getDeclaredFields()) {
            boolean isConstant = Modifier.isStatic(f.getModifiers());
            Checks.holds(c.getName() + "." + f.getName() + ", if static, is final", !isConstant || Modifier.isFinal(f.getModifiers()));
            fields += isConstant ? 0 : 1;
        }
        Checks.holds(c.getName() + " has some twenty fields at most", fields <= 20);
        for (Method m : c.getDeclaredMethods()) {
            Checks.holds(m.getName() + " takes seven parameters at most", m.getParameterCount() <= 7);
        }
    }

    /** A method here begins behind a line that ends with ") {", four or eight blanks in, and ends at its brace. */
    private static void lengths(String source) {
        String[] lines = source.split("\n");
        int begun = -1;
        String indent = "";
        for (int i = 0; i < lines.length; i++) {
            Matcher head = Pattern.compile("^( {4}| {8})(?! )(?!if|for|while|switch).*\\) \\{$").matcher(lines[i]);
            if (begun < 0 && head.matches()) {
                begun = i;
                indent = head.group(1);
            } else if (begun >= 0 && lines[i].equals(indent + "}")) {
                Checks.holds("the method at line " + (begun + 1) + " is short", i - begun <= 60);
                begun = -1;
            }
        }
    }

    /** All calls of a run share one room: calls make nothing at all. */
    private static void room() {
        com.sun.management.ThreadMXBean threads = (com.sun.management.ThreadMXBean) ManagementFactory.getThreadMXBean();
        SloshTank x = full();
        dearCalls(x);
        long before = threads.getCurrentThreadAllocatedBytes();
        long nothing = threads.getCurrentThreadAllocatedBytes() - before;
        before = threads.getCurrentThreadAllocatedBytes();
        for (int k = 0; k < 40; k++) {
            dearCalls(x);
        }
        long made = threads.getCurrentThreadAllocatedBytes() - before - nothing;
        Checks.holds("440 calls made " + made + " bytes", made < 100_000);
    }

    private static SloshTank full() {
        SloshTank x = new SloshTank();
        for (int t = 0; t < 5; t++) {
            x.tank(t, 12, 99, 10 * t - 20);
            x.fill(t, 500);
            x.feed(t, t);
        }
        Checks.wayOf(x, "l20x40;r20x50;l20x30;");
        Checks.rowOf(x, 0, 2, 0, 2, 4, 6, 8, 10);
        Checks.rowOf(x, 1, 2, -1, -1, -1, -1, -1, -1, -1, -1, -1, 999);
        for (int r = 0; r < 8; r++) {
            x.record(0, r, 0, 1);
        }
        return x;
    }

    private static void dearCalls(SloshTank x) {
        x.walls(0, 0, 0, 6);
        x.worstFill(0, 0, 1);
        x.fits(0, 1, 99, 0);
        x.drawOrder(-1);
        x.tell(0x28393A73313B29L, 7);
        x.way();
        x.image();
        x.back();
        x.tanks(1, 2, 0, 2);
        x.sheet(2, 1, 40);
        x.beside(0, 200, 0);
    }
}
