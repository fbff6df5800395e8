import java.util.List;
import java.util.function.IntSupplier;

/** Checks of one call at an edge: its answer, what is told of it, and what it leaves as it was. */
final class Edge {
    static final int MIN = Integer.MIN_VALUE;
    static final int MAX = Integer.MAX_VALUE;
    private static final int[] GROUNDS = {-1, -2, -4, -5};

    private Edge() {
    }

    /** An act that is REFUSED: nothing but what is told of it changes. */
    static void refused(String what, HopNet x, int why, IntSupplier act) {
        List<Integer> before = View.of(x);
        int kept = x.count(9);
        int[] told = refusals(x);
        Check.due(what, act.getAsInt(), why);
        Check.due(what + ": status", x.status(), why);
        for (int i = 0; i < GROUNDS.length; i++) {
            int more = GROUNDS[i] == why ? 1 : 0;
            Check.due(what + ": told of " + GROUNDS[i], x.count(5 + i), told[i] + more);
        }
        Check.due(what + ": what can be undone", x.count(9), kept);
        Check.that(what + ": changes nothing", before.equals(View.of(x)));
    }

    /** An act that stands and can be undone. */
    static void done(String what, HopNet x, int due, IntSupplier act) {
        int kept = x.count(9);
        stands(what, x, due, act);
        Check.due(what + ": can be undone", x.count(9), Math.min(8, kept + 1));
    }

    /** An act that is not REFUSED. */
    static void stands(String what, HopNet x, int due, IntSupplier act) {
        int[] told = refusals(x);
        Check.due(what, act.getAsInt(), due);
        Check.due(what + ": status", x.status(), 0);
        for (int i = 0; i < GROUNDS.length; i++) {
            Check.due(what + ": told of " + GROUNDS[i], x.count(5 + i), told[i]);
        }
    }

    /** Each of these questions has the same answer. */
    static void all(String what, int due, int... answers) {
        for (int i = 0; i < answers.length; i++) {
            Check.due(what + ", " + (i + 1) + ". of them", answers[i], due);
        }
    }

    private static int[] refusals(HopNet x) {
        int[] told = new int[GROUNDS.length];
        for (int i = 0; i < told.length; i++) {
            told[i] = x.count(5 + i);
        }
        return told;
    }
}
