import java.io.IOException;
import java.lang.reflect.Method;
import java.lang.reflect.Modifier;
import java.nio.file.Files;
import java.nio.file.Path;
import java.util.HashMap;
import java.util.Map;
import java.util.regex.Matcher;
import java.util.regex.Pattern;

/** README.md says how to use the class: its examples answer what stands behind them, no call is left out. */
public final class ReadmeTest {
    private static final Pattern BLOCK = Pattern.compile("(?s)```java\n(.*?)```");
    private static final Pattern CALL =
            Pattern.compile("(?:int (\\w+) = )?x\\.(\\w+)\\(([^)]*)\\); +// (-?\\d+)(:.*)?");
    private static final String NEW = "HopNet x = new HopNet();";

    private final HopNet x = new HopNet();
    private final Map<String, Integer> named = new HashMap<>(Map.of("HopNet.NONE", HopNet.NONE));

    private static Method methodOf(String name) {
        for (Method m : HopNet.class.getDeclaredMethods()) {
            if (Modifier.isPublic(m.getModifiers()) && m.getName().equals(name)) {
                return m;
            }
        }
        throw new IllegalStateException("README.md calls " + name);
    }

    private Object[] valuesOf(String arguments) {
        if (arguments.isEmpty()) {
            return new Object[0];
        }
        String[] words = arguments.split(", ");
        Object[] values = new Object[words.length];
        for (int i = 0; i < words.length; i++) {
            values[i] = named.containsKey(words[i]) ? named.get(words[i]) : Integer.valueOf(words[i]);
        }
        return values;
    }

    private void play(String line) throws ReflectiveOperationException {
        Matcher call = CALL.matcher(line);
        boolean isCall = call.matches();
        Check.that("README.md, a call with its answer: " + line, isCall);
        if (isCall) {
            int got = (Integer) methodOf(call.group(2)).invoke(x, valuesOf(call.group(3)));
            Check.due("README.md, " + line, got, Integer.parseInt(call.group(4)));
            if (call.group(1) != null) {
                named.put(call.group(1), got);
            }
        }
    }

    private static int playBlocks(String page) throws ReflectiveOperationException {
        int blocks = 0;
        for (Matcher block = BLOCK.matcher(page); block.find(); blocks++) {
            String[] lines = block.group(1).split("\n");
            Check.that("an example begins with a new object", lines[0].equals(NEW));
            ReadmeTest test = new ReadmeTest();
            for (int i = 1; i < lines.length; i++) {
                test.play(lines[i]);
            }
        }
        return blocks;
    }

    private static void namesEveryCall(String page) {
        for (Method m : HopNet.class.getDeclaredMethods()) {
            if (Modifier.isPublic(m.getModifiers())) {
                Check.that("README.md names " + m.getName(), page.contains("`" + m.getName() + "`"));
            }
        }
    }

    public static void main(String[] args) throws IOException, ReflectiveOperationException {
        String page = Files.readString(Path.of("README.md"));
        Check.due("examples in README.md", playBlocks(page), 3);
        namesEveryCall(page);
        Check.finish();
    }
}
