/** Counts and prints the answers that are not due. */
final class Checks {
    private static int wrong = 0;
    private static int made = 0;

    interface Call {
        void run();
    }

    private Checks() {
    }

    static void due(String call, long got, long want) {
        made++;
        if (got != want) {
            wrong++;
            System.out.println(call + " answered " + got + ", due is " + want);
        }
    }

    static void due(String call, boolean got, boolean want) {
        due(call, got ? 1 : 0, want ? 1 : 0);
    }

    /** The exception must be of just this class; and what the object shows must be as before. */
    static void dueThrow(String call, HeapClaims x, Class<?> want, Call run) {
        made++;
        String before = Look.at(x);
        Class<?> got = null;
        try {
            run.run();
        } catch (RuntimeException e) {
            got = e.getClass();
        }
        if (got != want) {
            wrong++;
            System.out.println(call + " threw " + got + ", due is " + want);
        }
        if (!before.equals(Look.at(x))) {
            wrong++;
            System.out.println(call + " threw and changed the object");
        }
    }

    static void end(String test) {
        System.out.println(test + ": " + made + " answers, " + wrong + " not as due");
        if (wrong != 0) {
            System.exit(1);
        }
    }
}
