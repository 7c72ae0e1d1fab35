import java.util.Random;

/** Runs of up to 512 calls of all kinds, right and wrong ones, beside what the document's words tell. */
public final class RunsTest {
    private static final int LONGEST = 512;
    private static final String[] STEPS = {"give", "put", "copy", "load", "store", "make", "drop"};
    private static final int[] FAR = {Integer.MIN_VALUE, -7, 10, 11, 32, 37, 256, Integer.MAX_VALUE};

    private final Random random;
    private final HeapClaims tried = new HeapClaims();
    private final PlainObject due = new PlainObject();
    private final StringBuilder told = new StringBuilder();
    private boolean asDue = true;

    private RunsTest(long seed) {
        random = new Random(seed);
    }

    public static void main(String[] args) {
        int times = args.length > 0 ? Integer.parseInt(args[0]) : 1;
        for (int i = 0; i < 60 * times; i++) {
            new RunsTest(1000 + i).steps(i % 6 == 0 ? LONGEST : 150);
            new RunsTest(5000 + i).claims(i % 6 == 0 ? LONGEST : 100);
            new RunsTest(9000 + i).all(i % 6 == 0 ? LONGEST : 100);
        }
        Checks.end("RunsTest");
    }

    /** Mostly the state at hand, and claims that are true of it now and then. */
    private void steps(int calls) {
        for (int i = 0; i < calls && asDue; i++) {
            int kind = random.nextInt(10);
            call(kind < 6 ? step() : kind < 8 ? look() : claimCall());
        }
    }

    /** Mostly claims, and questions about all states. */
    private void claims(int calls) {
        for (int i = 0; i < calls && asDue; i++) {
            call(random.nextInt(5) < 3 ? claimCall() : question());
        }
    }

    private void all(int calls) {
        for (int i = 0; i < calls && asDue; i++) {
            int kind = random.nextInt(4);
            call(kind == 0 ? step() : kind == 1 ? look() : kind == 2 ? claimCall() : question());
        }
    }

    private void call(PlainObject.Call call) {
        String want = due.answer(call);
        String got = Answers.of(tried, call);
        told.append(call).append(' ');
        Checks.due(told.toString(), got, want);
        asDue = got.equals(want);
    }

    private PlainObject.Call step() {
        String name = STEPS[random.nextInt(STEPS.length)];
        return switch (name) {
            case "give" -> new PlainObject.Call(name, upTo(4), upTo(9));
            case "put" -> new PlainObject.Call(name, upTo(9), upTo(9));
            case "make", "drop" -> new PlainObject.Call(name, upTo(4));
            default -> new PlainObject.Call(name, upTo(4), upTo(5));
        };
    }

    private PlainObject.Call look() {
        return switch (random.nextInt(5)) {
            case 0 -> new PlainObject.Call("value", upTo(5));
            case 1 -> new PlainObject.Call("next", upTo(9));
            case 2 -> new PlainObject.Call("count");
            default -> new PlainObject.Call("holds", upTo(1));
        };
    }

    /** Clears often enough for claims that are possible. */
    private PlainObject.Call claimCall() {
        int claim = upTo(1);
        int mostlyOne = Math.min(1, random.nextInt(4));
        return switch (random.nextInt(12)) {
            case 0, 1 -> new PlainObject.Call("clear", claim);
            case 2 -> new PlainObject.Call("swap");
            case 3 -> new PlainObject.Call("pieces", claim);
            case 4, 5, 6 -> new PlainObject.Call("pair", claim, upTo(5), upTo(5), mostlyOne);
            default -> new PlainObject.Call("piece", claim, upTo(5), upTo(5), mostlyOne);
        };
    }

    private PlainObject.Call question() {
        return switch (random.nextInt(6)) {
            case 0 -> new PlainObject.Call("possible", upTo(1));
            case 1 -> new PlainObject.Call("implies");
            case 2, 3 -> new PlainObject.Call("frame");
            default -> new PlainObject.Call("sure", upTo(2), upTo(5), upTo(5));
        };
    }

    /** Mostly 0 .. greatest, now and then just outside of it, seldom far from it. */
    private int upTo(int greatest) {
        int kind = random.nextInt(40);
        if (kind == 0) {
            return FAR[random.nextInt(FAR.length)];
        }
        return kind == 1 ? -1 : kind == 2 ? greatest + 1 : random.nextInt(greatest + 1);
    }
}
