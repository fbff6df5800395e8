/** Counts the answers that are not as due, and ends the test's run by it. */
final class Check {
    private static int wrong = 0;
    private static int checked = 0;

    private Check() {
    }

    static void due(String what, long got, long want) {
        checked++;
        if (got != want) {
            wrong++;
            if (wrong <= 50) {
                System.out.println(what + ": answered " + got + ", due is " + want);
            }
        }
    }

    static void that(String what, boolean holds) {
        due(what, holds ? 1 : 0, 1);
    }

    static int wrongSoFar() {
        return wrong;
    }

    static void finish() {
        System.out.println(checked + " checked, " + wrong + " wrong");
        if (wrong != 0) {
            System.exit(1);
        }
    }
}
