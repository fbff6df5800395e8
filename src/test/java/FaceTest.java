import java.io.IOException;
import java.lang.management.ManagementFactory;
import java.lang.reflect.Constructor;
import java.lang.reflect.Field;
import java.lang.reflect.Method;
import java.lang.reflect.Modifier;
import java.nio.file.Files;
import java.nio.file.Path;
import java.util.Set;
import java.util.TreeSet;
import java.util.regex.Matcher;
import java.util.regex.Pattern;

/** The face of the document, the rules of LANGUAGE.md that can be read off the text, and the room. */
public final class FaceTest {
    private static final Path SOURCE = Path.of("src/main/java/HopNet.java");
    private static final String[] FACE = {"radio 1", "net 3", "join 2", "leave 2", "noise 2", "terms 2", "put 4",
        "reserve 5", "sniff 4", "weigh 3", "cast 2", "map 3", "adapt 3", "run 1", "undo 0", "image 1", "back 1",
        "kernel 2", "hop 3", "alike 3", "mapOf 3", "meets 0", "used 3", "bad 2", "sent 3", "link 3", "hash 3",
        "reserved 3", "isThere 3", "odds 4", "clashes 1", "bestOffset 1", "drain 2", "would 3", "ready 2",
        "bothReady 4", "ahead 2", "together 3", "ranked 2", "quiet 2", "bestShare 1", "ofNet 2", "count 1",
        "status 0"};
    private static final String[] FORBIDDEN = {"\\bthrow\\b", "\\btry\\b", "\\bcatch\\b", "\\bsynchronized\\b",
        "\\bassert\\b", "->", "::", "\\bimport\\b", "\\bpackage\\b", "\\bnull\\s*\\.", "\\w+Exact\\b",
        "\\bdouble\\b", "\\bfloat\\b", "System\\.(?!arraycopy)", "\\bprotected\\b", "\\bRandom\\b", "\\bThread\\b"};

    private static void theFace() {
        Set<String> due = new TreeSet<>(Set.of(FACE));
        Set<String> seen = new TreeSet<>();
        for (Method m : HopNet.class.getDeclaredMethods()) {
            boolean open = !Modifier.isPrivate(m.getModifiers());
            if (open && !m.isSynthetic()) {
                seen.add(m.getName() + " " + m.getParameterCount());
                Check.that(m.getName() + " is public", Modifier.isPublic(m.getModifiers()));
                Check.that(m.getName() + " answers an int", m.getReturnType() == int.class);
                for (Class<?> p : m.getParameterTypes()) {
                    Check.that(m.getName() + " takes ints", p == int.class);
                }
            }
        }
        Check.that("the methods of the document: " + seen, seen.equals(due));
        Constructor<?>[] constructors = HopNet.class.getDeclaredConstructors();
        Check.due("one constructor", constructors.length, 1);
        Check.due("without parameters", constructors[0].getParameterCount(), 0);
        Check.that("final", Modifier.isFinal(HopNet.class.getModifiers()));
        for (Field f : HopNet.class.getDeclaredFields()) {
            boolean open = !Modifier.isPrivate(f.getModifiers());
            Check.that("field " + f.getName(), !open || f.getName().equals("NONE"));
            Check.that("static field " + f.getName(), !Modifier.isStatic(f.getModifiers())
                    || Modifier.isFinal(f.getModifiers()));
        }
        Check.due("NONE", HopNet.NONE, -1);
    }

    private static void noPrivateMethodHasAPublicName() {
        for (Class<?> inside : HopNet.class.getDeclaredClasses()) {
            Check.that(inside.getName() + " is static", Modifier.isStatic(inside.getModifiers()));
            int fields = inside.getDeclaredFields().length;
            Check.that(inside.getName() + " has few fields", fields <= 22);
            for (Method m : inside.getDeclaredMethods()) {
                hasNoPublicName(m);
            }
        }
        for (Method m : HopNet.class.getDeclaredMethods()) {
            Check.that(m.getName() + " takes seven at most", m.getParameterCount() <= 7);
            if (Modifier.isPrivate(m.getModifiers())) {
                hasNoPublicName(m);
            }
        }
        Check.that("few classes", HopNet.class.getDeclaredClasses().length < 12);
    }

    private static void hasNoPublicName(Method m) {
        for (String name : FACE) {
            Check.that("name " + m.getName(), !name.startsWith(m.getName() + " "));
        }
    }

    private static void theText() throws IOException {
        String text = Files.readString(SOURCE);
        String code = text.replaceAll("(?s)/\\*.*?\\*/", " ").replaceAll("//[^\n]*", " ");
        for (String rule : FORBIDDEN) {
            Matcher m = Pattern.compile(rule).matcher(code);
            Check.that("LANGUAGE.md rules out " + rule, !m.find());
        }
        for (int i = 0; i < text.length(); i++) {
            Check.that("plain signs alone", text.charAt(i) < 128);
        }
        methodsAreShort(code);
    }

    private static void methodsAreShort(String code) {
        int start = -1;
        int number = 0;
        for (String line : code.split("\n")) {
            number++;
            if (line.matches("^( {4}| {8})\\w.*\\) \\{$") && start < 0) {
                start = number;
            } else if (line.matches("^( {4}| {8})\\}$") && start >= 0) {
                Check.that("the method at line " + start + " is short", number - start <= 60);
                start = -1;
            }
        }
    }

    private static long allocated() {
        com.sun.management.ThreadMXBean threads =
                (com.sun.management.ThreadMXBean) ManagementFactory.getThreadMXBean();
        return threads.getThreadAllocatedBytes(Thread.currentThread().getId());
    }

    private static int dearCalls(HopNet x) {
        int sum = 0;
        for (int i = 0; i < 50; i++) {
            sum += x.put(0, 0, 0, 200) + x.run(20) + x.bestShare(32) + x.bestOffset(512) + x.drain(0, 0);
            sum += x.would(8, 200, 1) + x.ahead(0, 200) + x.undo() + x.image(0) + x.meets();
        }
        return sum + x.back(0);
    }

    private static HopNet ready() {
        HopNet x = new HopNet();
        x.radio(1);
        x.radio(2);
        x.radio(3);
        x.net(0, 0, 0);
        x.net(1, 1, 3);
        x.join(0, 2);
        x.join(1, 2);
        return x;
    }

    private static void theRoom() {
        dearCalls(ready());
        allocated();
        HopNet x = ready();
        long before = allocated();
        int sum = dearCalls(x);
        long spent = allocated() - before;
        Check.that("calls make no objects: " + spent + " bytes, " + sum, spent < 20000);
        before = allocated();
        x = ready();
        spent = allocated() - before;
        Check.that("an object is small: " + spent + " bytes", spent < 200000 && x.count(1) == 3);
    }

    public static void main(String[] args) throws IOException {
        theFace();
        noPrivateMethodHasAPublicName();
        theText();
        theRoom();
        Check.finish();
    }
}
