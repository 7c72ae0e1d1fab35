/** What the program answers to a call, as a text. */
final class Answers {
    private Answers() {
    }

    static String of(HeapClaims x, PlainObject.Call call) {
        try {
            return String.valueOf(asked(x, call.name(), call.args()));
        } catch (RuntimeException e) {
            return "throws " + e.getClass().getSimpleName();
        }
    }

    private static Object asked(HeapClaims x, String name, int[] args) {
        return switch (name) {
            case "piece" -> x.piece(args[0], args[1], args[2], args[3] == 1);
            case "pieces" -> x.pieces(args[0]);
            case "possible" -> x.possible(args[0]);
            case "implies" -> x.implies();
            case "sure" -> x.sure(args[0], args[1], args[2]);
            case "frame" -> x.frame();
            case "holds" -> x.holds(args[0]);
            case "value" -> x.value(args[0]);
            case "next" -> x.next(args[0]);
            case "count" -> x.count();
            default -> {
                done(x, name, args);
                yield "";
            }
        };
    }

    private static void done(HeapClaims x, String name, int[] args) {
        switch (name) {
            case "pair" -> x.pair(args[0], args[1], args[2], args[3] == 1);
            case "clear" -> x.clear(args[0]);
            case "swap" -> x.swap();
            case "give" -> x.give(args[0], args[1]);
            case "put" -> x.put(args[0], args[1]);
            case "copy" -> x.copy(args[0], args[1]);
            case "load" -> x.load(args[0], args[1]);
            case "store" -> x.store(args[0], args[1]);
            case "make" -> x.make(args[0]);
            case "drop" -> x.drop(args[0]);
            default -> throw new AssertionError(name);
        }
    }
}
