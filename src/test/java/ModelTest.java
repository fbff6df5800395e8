import java.lang.reflect.Method;
import java.util.Arrays;
import java.util.Random;

/** Long runs of calls by chance, each answered by HopNet and by Model: every answer is alike. */
public final class ModelTest {
    private static final String[] NAMES = {"radio", "net", "join", "leave", "noise", "terms", "put", "reserve",
        "sniff", "weigh", "cast", "map", "adapt", "run", "undo", "image", "back", "kernel", "hop", "alike", "mapOf",
        "meets", "used", "bad", "sent", "link", "hash", "reserved", "isThere", "odds", "clashes", "bestOffset",
        "drain", "would", "ready", "bothReady", "ahead", "together", "ranked", "quiet", "bestShare", "ofNet",
        "count", "status"};
    private static final int PUT = 6;
    private static final int ACTS = 17;
    private static final int RUN = 13;
    private static final Method[] REAL = methodsOf(HopNet.class);
    private static final Method[] MODEL = methodsOf(Model.class);

    private final Random random;
    private final HopNet real = new HopNet();
    private final Model model = new Model();
    private final StringBuilder trace = new StringBuilder();

    private ModelTest(long seed) {
        random = new Random(seed);
    }

    private int among(int lo, int hi) {
        return lo + random.nextInt(hi - lo + 1);
    }

    /** Mostly a number that can be; now and then one at the edge or far outside. */
    private int near(int lo, int hi) {
        int kind = random.nextInt(60);
        if (kind == 0) {
            return lo - 1;
        }
        if (kind == 1) {
            return hi + 1;
        }
        if (kind == 2) {
            return random.nextInt();
        }
        if (kind == 3) {
            return random.nextBoolean() ? Integer.MIN_VALUE : Integer.MAX_VALUE;
        }
        if (kind < 8) {
            return random.nextBoolean() ? lo : hi;
        }
        return among(lo, hi);
    }

    private int evenNear(int lo, int hi) {
        int v = near(lo, hi);
        return random.nextInt(40) == 0 ? v : v & ~1;
    }

    private int aMap() {
        if (random.nextInt(12) == 0) {
            return random.nextInt();
        }
        int map = random.nextInt(1 << 23);
        return random.nextBoolean() ? map | 1 << random.nextInt(23) | random.nextInt(1 << 23) : map;
    }

    private int[] arguments(int call) {
        int net = near(0, 1);
        int link = random.nextInt(3) > 0 ? among(0, 1) : near(0, 3);
        switch (NAMES[call]) {
            case "radio": return new int[] {near(0, 268435455)};
            case "net": return new int[] {net, near(0, 5), random.nextBoolean() ? near(0, 65535) : near(0, 40)};
            case "join": return new int[] {net, near(0, 5)};
            case "leave": return new int[] {net, link};
            case "noise": return new int[] {near(0, 22), random.nextInt(3) > 0 ? near(0, 6) : near(0, 16)};
            case "terms": {
                int what = near(0, 2);
                return new int[] {what, what == 0 ? near(0, 1000000) : what == 1 ? evenNear(0, 32) : near(1, 4)};
            }
            case "put": return new int[] {net, link, near(0, 1), near(0, 255)};
            case "reserve": {
                int period = random.nextInt(5) == 0 ? 0 : evenNear(6, 40);
                return new int[] {net, link, period, evenNear(0, Math.max(2, Math.min(period, 41) - 2)), near(1, 3)};
            }
            case "sniff": return new int[] {net, link, random.nextInt(3) == 0 ? 0 : evenNear(8, 64), near(1, 4)};
            case "weigh": return new int[] {net, link, near(1, 4)};
            case "cast": return new int[] {net, near(0, 255)};
            case "map": return new int[] {net, aMap(), random.nextInt(3) > 0 ? near(1, 9) : near(1, 100)};
            case "adapt": return new int[] {net, random.nextInt(3) > 0 ? near(1, 4) : near(1, 99), near(1, 12)};
            case "run": return new int[] {random.nextInt(4) > 0 ? near(1, 6) : near(1, 200)};
            case "image":
            case "back": return new int[] {near(0, 1)};
            case "kernel": return new int[] {near(0, 268435455), near(0, 999999)};
            case "hop": return new int[] {net, near(-1, 3), near(0, 199999)};
            case "alike": return new int[] {net, link, near(0, 2)};
            case "mapOf": return new int[] {net, near(-1, 3), near(0, 3)};
            case "used": return new int[] {net, near(0, 22), near(1, 512)};
            case "bad": return new int[] {net, random.nextBoolean() ? near(1, 5) : near(1, 99)};
            case "sent": return new int[] {net, near(0, 22), near(0, 1)};
            case "link": return new int[] {net, link, near(0, 16)};
            case "hash": return new int[] {net, link, near(0, 2)};
            case "reserved": return new int[] {net, link, near(0, 5)};
            case "isThere": return new int[] {near(0, 5), net, near(0, 199999)};
            case "odds": return new int[] {net, link, near(1, 64), near(0, 1)};
            case "clashes": return new int[] {near(1, 512)};
            case "bestOffset": return new int[] {random.nextInt(4) > 0 ? near(1, 40) : near(1, 512)};
            case "drain": return new int[] {net, link};
            case "would": return new int[] {evenNear(0, 32), near(1, 60), near(0, 2)};
            case "ready": return new int[] {net, link};
            case "bothReady": return new int[] {net, link, near(0, 3), near(1, 200)};
            case "ahead": return new int[] {net, near(1, 40)};
            case "together": return new int[] {net, link, near(0, 3)};
            case "ranked": return new int[] {net, near(0, 22)};
            case "quiet": return new int[] {net, random.nextBoolean() ? near(0, 9) : near(0, 9999)};
            case "bestShare": return new int[] {random.nextInt(4) > 0 ? near(1, 6) : near(1, 32)};
            case "ofNet": return new int[] {net, near(0, 6)};
            case "count": return new int[] {near(0, 19)};
            default: return new int[0];
        }
    }

    private static Method[] methodsOf(Class<?> type) {
        Method[] found = new Method[NAMES.length];
        for (Method m : type.getDeclaredMethods()) {
            int at = Arrays.asList(NAMES).indexOf(m.getName());
            if (at >= 0) {
                found[at] = m;
            }
        }
        return found;
    }

    private static int answer(Method method, Object of, int[] a) {
        try {
            return (Integer) method.invoke(of, Arrays.stream(a).boxed().toArray());
        } catch (ReflectiveOperationException e) {
            throw new IllegalStateException(method.getName() + Arrays.toString(a), e);
        }
    }

    private boolean ask(int call, int... a) {
        int got = answer(REAL[call], real, a);
        int want = answer(MODEL[call], model, a);
        trace.append(NAMES[call]).append(Arrays.toString(a)).append(" -> ").append(got).append('\n');
        Check.due(NAMES[call] + Arrays.toString(a), got, want);
        return got == want;
    }

    private boolean same(String name, int... a) {
        return ask(Arrays.asList(NAMES).indexOf(name), a);
    }

    private boolean setUp() {
        boolean ok = true;
        for (int i = among(3, 6); i > 0; i--) {
            ok &= same("radio", random.nextInt(268435456));
        }
        ok &= same("net", 0, 0, near(0, 65535));
        ok &= same("net", 1, among(1, 2), among(0, 100));
        for (int i = among(2, 7); i > 0; i--) {
            ok &= same("join", among(0, 1), among(0, 5));
        }
        return ok;
    }

    private int aCall() {
        int kind = random.nextInt(10);
        if (kind < 2) {
            return RUN;
        }
        if (kind < 3) {
            return PUT;
        }
        return kind < 6 ? random.nextInt(ACTS) : random.nextInt(NAMES.length);
    }

    private boolean play(int calls) {
        boolean ok = random.nextInt(8) == 0 || setUp();
        for (int i = 0; i < calls && ok; i++) {
            int call = aCall();
            boolean rare = NAMES[call].equals("leave") || NAMES[call].equals("undo") || NAMES[call].equals("back");
            if (rare && random.nextInt(3) > 0) {
                continue;
            }
            ok = ask(call, arguments(call));
        }
        return ok;
    }

    private boolean playToTheEndOfTime() {
        boolean ok = setUp();
        for (int i = 0; i < 249 && ok; i++) {
            ok = same("run", 200);
        }
        ok = ok && same("put", 0, 0, 0, 5) && same("put", 0, 0, 1, 6) && same("noise", 3, 16);
        for (int i = 0; i < 220 && ok; i++) {
            int call = random.nextInt(NAMES.length);
            ok = ask(call, random.nextInt(3) == 0 && call == RUN ? new int[] {among(1, 40)} : arguments(call));
        }
        return ok;
    }

    public static void main(String[] args) {
        int games = args.length > 0 ? Integer.parseInt(args[0]) : 800;
        for (int seed = 0; seed < games; seed++) {
            ModelTest test = new ModelTest(seed);
            boolean ok = seed % 100 == 99 ? test.playToTheEndOfTime() : test.play(440);
            if (!ok) {
                System.out.println("seed " + seed + ", the run so far:");
                System.out.println(test.trace);
                break;
            }
        }
        Check.finish();
    }
}
