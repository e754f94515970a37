import java.io.IOException;
import java.lang.reflect.Method;
import java.lang.reflect.Modifier;
import java.nio.file.Files;
import java.nio.file.Path;
import java.util.regex.Matcher;
import java.util.regex.Pattern;

/** README.md against the class: its run of calls answers as it says there, and it tells each call of the face. */
public final class ReadmeTest {
    private static final Pattern CALL = Pattern.compile("(?m)^x\\.(\\w+)\\((.*)\\); +// (-?\\d+):.*$");

    public static void main(String[] args) throws IOException, ReflectiveOperationException {
        String page = Files.readString(Path.of("README.md"));
        runOfCalls(page);
        allCalls(page);
        Checks.end("ReadmeTest");
    }

    private static void runOfCalls(String page) throws ReflectiveOperationException {
        int from = page.indexOf("```java");
        String block = page.substring(from, page.indexOf("```", from + 3));
        SloshTank x = new SloshTank();
        Matcher line = CALL.matcher(block);
        int calls = 0;
        while (line.find()) {
            long got = answer(x, line.group(1), line.group(2).split(", *"));
            Checks.due("README: " + line.group(), got, Long.parseLong(line.group(3)));
            calls++;
        }
        Checks.due("README: each line but the fence and the constructor's is a call", calls, block.strip().lines().count() - 2);
    }

    private static long answer(SloshTank x, String name, String[] told) throws ReflectiveOperationException {
        Method call = call(name);
        Class<?>[] types = call.getParameterTypes();
        Object[] numbers = new Object[types.length];
        for (int k = 0; k < types.length; k++) {
            long v = Long.decode(told[k].replace("L", ""));
            if (types[k] == long.class) {
                numbers[k] = v;
            } else {
                numbers[k] = (int) v;
            }
        }
        return ((Number) call.invoke(x, numbers)).longValue();
    }

    private static Method call(String name) throws NoSuchMethodException {
        for (Method m : SloshTank.class.getDeclaredMethods()) {
            if (Modifier.isPublic(m.getModifiers()) && m.getName().equals(name)) {
                return m;
            }
        }
        throw new NoSuchMethodException(name);
    }

    private static void allCalls(String page) {
        int from = page.indexOf("## What the calls are for");
        String table = page.substring(from, page.indexOf("## ", from + 3));
        for (Method m : SloshTank.class.getDeclaredMethods()) {
            if (Modifier.isPublic(m.getModifiers())) {
                Checks.holds("README tells " + m.getName(), table.contains("`" + m.getName() + "`"));
            }
        }
    }
}
