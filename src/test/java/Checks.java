import java.util.function.Supplier;

/** Counts and prints the answers that are not due, under the sentence of the document they break. */
final class Checks {
    private static int wrong = 0;
    private static int made = 0;
    private static int sentences = 0;
    private static int madeBefore = 0;
    private static String sentence = "";

    interface Call {
        void on(HeapClaims x);
    }

    private Checks() {
    }

    /** Runs the tests one after the other; one that an exception ends does not keep the rest back. */
    static void each(Runnable... tests) {
        for (Runnable test : tests) {
            try {
                test.run();
            } catch (RuntimeException e) {
                made++;
                fail("threw " + e + ", nothing is due to be thrown" + where(e));
            }
        }
    }

    private static String where(RuntimeException e) {
        for (StackTraceElement line : e.getStackTrace()) {
            if (line.getClassName().endsWith("Test")) {
                return " at " + line;
            }
        }
        return "";
    }

    /** What is checked from here on is said by this sentence of the document. */
    static void sentence(String where, String words) {
        endOfSentence();
        sentences++;
        sentence = where + ", \"" + words + "\": ";
    }

    private static void endOfSentence() {
        if (sentences > 0 && made == madeBefore) {
            fail("nothing is checked");
        }
        madeBefore = made;
    }

    private static void fail(String words) {
        wrong++;
        System.out.println(sentence + words);
    }

    static void due(String call, long got, long want) {
        made++;
        if (got != want) {
            fail(call + " answered " + got + ", due is " + want);
        }
    }

    static void due(String call, boolean got, boolean want) {
        made++;
        if (got != want) {
            fail(call + " answered " + got + ", due is " + want);
        }
    }

    static void due(String call, String got, String want) {
        made++;
        if (!got.equals(want)) {
            fail(call + " answered " + got + ", due is " + want);
        }
    }

    /**
     * The call on what is made must throw an exception of just this class; and what it was called
     * on must then show all that another one shows on which nothing was called.
     */
    static void dueThrow(String call, Supplier<HeapClaims> make, Class<?> want, Call refused) {
        HeapClaims x = make.get();
        made++;
        Class<?> got = null;
        try {
            refused.on(x);
        } catch (RuntimeException e) {
            got = e.getClass();
        }
        if (got != want) {
            fail(call + " threw " + got + ", due is " + want);
        }
        String before = Look.at(make.get());
        String after = Look.at(x);
        if (!before.equals(after)) {
            fail(call + " threw and changed the object from" + before + " to" + after);
        }
    }

    static void end(String test) {
        endOfSentence();
        String of = sentences == 0 ? "" : sentences + " sentences, ";
        System.out.println(test + ": " + of + made + " answers, " + wrong + " not as due");
        if (wrong != 0) {
            System.exit(1);
        }
    }
}
