import java.util.function.Supplier;

/** Each sentence of the document by which a call throws; wrong inputs on both sides of each bound. */
public final class RefusalsTest extends Samples {
    public static void main(String[] args) {
        Checks.each(
                RefusalsTest::samplesAreWhatTheyAreFor,
                RefusalsTest::pairWithoutClaimOrTerm,
                RefusalsTest::pieceWithoutClaimOrTerm,
                RefusalsTest::pieceWhenThereAreFive,
                RefusalsTest::clearWithoutClaim,
                RefusalsTest::piecesWithoutClaim,
                RefusalsTest::possibleWithoutClaim,
                RefusalsTest::sureWithoutTerm,
                RefusalsTest::sureOfNoneOfThese,
                RefusalsTest::holdsWithoutClaim,
                RefusalsTest::giveWithoutVariable,
                RefusalsTest::giveOfNoValue,
                RefusalsTest::putAtNoAddressOrOfNoValue,
                RefusalsTest::copyWithoutVariableOrTerm,
                RefusalsTest::loadWithoutVariables,
                RefusalsTest::loadWithoutCell,
                RefusalsTest::storeWithoutVariableOrTerm,
                RefusalsTest::storeWithoutCell,
                RefusalsTest::makeWithoutVariable,
                RefusalsTest::makeWhenAllHaveOne,
                RefusalsTest::dropWithoutVariable,
                RefusalsTest::dropWithoutCell,
                RefusalsTest::valueWithoutTerm,
                RefusalsTest::firstNamedIsThrown,
                RefusalsTest::changesNothing);
        Checks.end("RefusalsTest");
    }

    private static void samplesAreWhatTheyAreFor() {
        Checks.sentence("Terms", "PIECES, up to 5");
        Checks.due("full left", full().pieces(0), 5);
        Checks.due("full right", full().pieces(1), 5);
        Checks.due("full heap", full().count(), 9);
        Checks.due("full left holds", full().holds(0), true);
        Checks.due("full right holds", full().holds(1), true);
        Checks.due("full left implies right", full().implies(), true);
        Checks.due("emptied", Look.at(emptied()), Look.at(new HeapClaims()));
    }

    /** Throws whatever the object is. */
    private static void refused(String call, Class<?> due, Checks.Call run) {
        for (Supplier<HeapClaims> sample : all()) {
            Checks.dueThrow(call, sample, due, run);
        }
    }

    private static void pairWithoutClaimOrTerm() {
        Checks.sentence("Promise 2", "IndexOutOfBoundsException when there is no such claim or term");
        for (int no : NO_CLAIMS) {
            refused("pair(" + no + ", 3, 4, false)", INDEX, x -> x.pair(no, 3, 4, SAME));
            refused("pair(" + no + ", 0, 4, true)", INDEX, x -> x.pair(no, 0, 4, OTHER));
        }
        for (int no : NO_TERMS) {
            refused("pair(0, " + no + ", 4, true)", INDEX, x -> x.pair(0, no, 4, OTHER));
            refused("pair(1, " + no + ", 4, false)", INDEX, x -> x.pair(1, no, 4, SAME));
            refused("pair(0, 3, " + no + ", false)", INDEX, x -> x.pair(0, 3, no, SAME));
            refused("pair(1, 3, " + no + ", true)", INDEX, x -> x.pair(1, 3, no, OTHER));
            refused("pair(0, " + no + ", " + no + ", true)", INDEX, x -> x.pair(0, no, no, OTHER));
        }
    }

    private static void pieceWithoutClaimOrTerm() {
        Checks.sentence("Promise 3", "IndexOutOfBoundsException when there is no such claim or term");
        for (int no : NO_CLAIMS) {
            refused("piece(" + no + ", 3, 4, true)", INDEX, x -> x.piece(no, 3, 4, LIST));
            refused("piece(" + no + ", 3, 4, false)", INDEX, x -> x.piece(no, 3, 4, CELL));
        }
        for (int no : NO_TERMS) {
            refused("piece(0, " + no + ", 4, true)", INDEX, x -> x.piece(0, no, 4, LIST));
            refused("piece(1, " + no + ", 4, false)", INDEX, x -> x.piece(1, no, 4, CELL));
            refused("piece(0, 3, " + no + ", false)", INDEX, x -> x.piece(0, 3, no, CELL));
            refused("piece(1, 3, " + no + ", true)", INDEX, x -> x.piece(1, 3, no, LIST));
        }
    }

    private static void pieceWhenThereAreFive() {
        Checks.sentence("Promise 3", "IllegalStateException when the claim has 5");
        for (int side = 0; side <= 1; side++) {
            int claim = side;
            Supplier<HeapClaims> five = () -> withFive(claim);
            Checks.dueThrow("a sixth CELL", five, STATE, y -> y.piece(claim, 0, NIL, CELL));
            Checks.dueThrow("a sixth LIST", five, STATE, y -> y.piece(claim, 0, 0, LIST));
            Checks.dueThrow("a sixth, of NIL", five, STATE, y -> y.piece(claim, NIL, 4, LIST));
            Supplier<HeapClaims> swapped = () -> {
                HeapClaims y = withFive(claim);
                y.swap();
                return y;
            };
            Checks.dueThrow("after swap", swapped, STATE, y -> y.piece(1 - claim, 0, 0, LIST));
            HeapClaims x = withFive(claim);
            Checks.due("the other claim has room", x.piece(1 - claim, 0, NIL, CELL), 0);
            x.swap();
            Checks.due("the other claim after swap", x.piece(claim, 1, NIL, CELL), 1);
            x.clear(1 - claim);
            Checks.due("after clear", x.piece(1 - claim, 0, 0, LIST), 0);
        }
        Supplier<HeapClaims> alike =
                () -> left(list(0, 0), list(0, 0), list(0, 0), list(0, 0), list(0, 0));
        Checks.dueThrow("five that are alike", alike, STATE, y -> y.piece(0, 0, 0, LIST));
    }

    private static HeapClaims withFive(int claim) {
        HeapClaims x = new HeapClaims();
        for (int place = 0; place < 5; place++) {
            Checks.due("piece of " + claim, x.piece(claim, place, NIL, CELL), place);
        }
        return x;
    }

    private static void clearWithoutClaim() {
        Checks.sentence("Promise 4", "IndexOutOfBoundsException when there is no such claim");
        for (int no : NO_CLAIMS) {
            refused("clear(" + no + ")", INDEX, x -> x.clear(no));
        }
    }

    private static void piecesWithoutClaim() {
        Checks.sentence("Promise 6", "IndexOutOfBoundsException when there is no such claim");
        for (int no : NO_CLAIMS) {
            refused("pieces(" + no + ")", INDEX, x -> x.pieces(no));
        }
    }

    private static void possibleWithoutClaim() {
        Checks.sentence("Promise 7", "IndexOutOfBoundsException when there is no such claim");
        for (int no : NO_CLAIMS) {
            refused("possible(" + no + ")", INDEX, x -> x.possible(no));
        }
    }

    private static void sureWithoutTerm() {
        Checks.sentence("Promise 9", "IndexOutOfBoundsException when there is no such term");
        for (int no : NO_TERMS) {
            for (int kind = 0; kind <= 2; kind++) {
                int what = kind;
                refused("sure(" + what + ", " + no + ", 1)", INDEX, x -> x.sure(what, no, 1));
                refused("sure(" + what + ", 1, " + no + ")", INDEX, x -> x.sure(what, 1, no));
            }
        }
        Supplier<HeapClaims> bad = RefusalsTest::notPossible;
        Checks.dueThrow("sure(2, 0, 6) by what is not possible", bad, INDEX, y -> y.sure(2, 0, 6));
        Checks.dueThrow("sure(2, 6, 0) by what is not possible", bad, INDEX, y -> y.sure(2, 6, 0));
    }

    private static HeapClaims notPossible() {
        HeapClaims x = new HeapClaims();
        x.pair(0, 0, 0, OTHER);
        return x;
    }

    private static void sureOfNoneOfThese() {
        Checks.sentence("Promise 9", "IllegalArgumentException when what is none of these");
        for (int no : NO_WHATS) {
            refused("sure(" + no + ", 0, 0)", ARGUMENT, x -> x.sure(no, 0, 0));
            refused("sure(" + no + ", 4, 5)", ARGUMENT, x -> x.sure(no, 4, NIL));
        }
        Supplier<HeapClaims> bad = RefusalsTest::notPossible;
        Checks.dueThrow("sure(3, 0, 0) by what is not possible", bad, ARGUMENT, y -> y.sure(3, 0, 0));
    }

    private static void holdsWithoutClaim() {
        Checks.sentence("Promise 13", "IndexOutOfBoundsException when there is no such claim");
        for (int no : NO_CLAIMS) {
            refused("holds(" + no + ")", INDEX, x -> x.holds(no));
        }
    }

    private static void giveWithoutVariable() {
        Checks.sentence("Promise 11", "IndexOutOfBoundsException when there is no such variable");
        for (int no : NO_VARIABLES) {
            refused("give(" + no + ", 0)", INDEX, x -> x.give(no, 0));
            refused("give(" + no + ", 9)", INDEX, x -> x.give(no, 9));
        }
    }

    private static void giveOfNoValue() {
        Checks.sentence("Promise 11", "IllegalArgumentException when v is not 0 .. 9");
        for (int no : NO_VALUES) {
            refused("give(0, " + no + ")", ARGUMENT, x -> x.give(0, no));
            refused("give(4, " + no + ")", ARGUMENT, x -> x.give(4, no));
        }
    }

    private static void putAtNoAddressOrOfNoValue() {
        Checks.sentence("Promise 12",
                "IllegalArgumentException when the address is not 1 .. 9 or next not 0 .. 9");
        for (int no : NO_ADDRESSES) {
            refused("put(" + no + ", 0)", ARGUMENT, x -> x.put(no, 0));
            refused("put(" + no + ", 9)", ARGUMENT, x -> x.put(no, 9));
        }
        for (int no : NO_VALUES) {
            refused("put(1, " + no + ")", ARGUMENT, x -> x.put(1, no));
            refused("put(9, " + no + ")", ARGUMENT, x -> x.put(9, no));
            refused("put(0, " + no + ")", ARGUMENT, x -> x.put(0, no));
        }
    }

    private static void copyWithoutVariableOrTerm() {
        Checks.sentence("Promise 14",
                "IndexOutOfBoundsException when there is no variable x or no term y");
        for (int no : NO_VARIABLES) {
            refused("copy(" + no + ", 0)", INDEX, x -> x.copy(no, 0));
            refused("copy(" + no + ", 5)", INDEX, x -> x.copy(no, NIL));
        }
        for (int no : NO_TERMS) {
            refused("copy(0, " + no + ")", INDEX, x -> x.copy(0, no));
            refused("copy(4, " + no + ")", INDEX, x -> x.copy(4, no));
        }
    }

    private static void loadWithoutVariables() {
        Checks.sentence("Promise 15", "IndexOutOfBoundsException when there are no such variables");
        for (int no : NO_VARIABLES) {
            refused("load(" + no + ", 0)", INDEX, x -> x.load(no, 0));
            refused("load(0, " + no + ")", INDEX, x -> x.load(0, no));
            refused("load(" + no + ", " + no + ")", INDEX, x -> x.load(no, no));
        }
    }

    private static void loadWithoutCell() {
        Checks.sentence("Promise 15", "IllegalStateException when there is no such cell");
        Checks.dueThrow("load(0, 0) at 0", HeapClaims::new, STATE, x -> x.load(0, 0));
        Checks.dueThrow("load(0, 2) at 7", Samples::busy, STATE, x -> x.load(0, 2));
        Checks.dueThrow("load(2, 2) at 7", Samples::busy, STATE, x -> x.load(2, 2));
        Checks.dueThrow("load(0, 3) at 0", Samples::busy, STATE, x -> x.load(0, 3));
        Supplier<HeapClaims> gone = RefusalsTest::withoutTheLast;
        Checks.dueThrow("load(0, 4) at a cell that is gone", gone, STATE, x -> x.load(0, 4));
        Checks.dueThrow("load(4, 4) at a cell that is gone", gone, STATE, x -> x.load(4, 4));
        Checks.dueThrow("load(4, 3) at 0, eight cells elsewhere", gone, STATE, x -> x.load(4, 3));
        HeapClaims there = busy();
        there.give(2, 0);
        there.load(2, 0);
        Checks.due("x needs no cell", there.value(2), 2);
    }

    /** Eight cells; none at 9, the value of 4, and none at 0, the value of 3. */
    private static HeapClaims withoutTheLast() {
        HeapClaims x = full();
        x.drop(4);
        x.copy(3, NIL);
        return x;
    }

    private static void storeWithoutVariableOrTerm() {
        Checks.sentence("Promise 16",
                "IndexOutOfBoundsException when there is no such variable or term");
        for (int no : NO_VARIABLES) {
            refused("store(" + no + ", 0)", INDEX, x -> x.store(no, 0));
            refused("store(" + no + ", 5)", INDEX, x -> x.store(no, NIL));
        }
        for (int no : NO_TERMS) {
            refused("store(0, " + no + ")", INDEX, x -> x.store(0, no));
            refused("store(4, " + no + ")", INDEX, x -> x.store(4, no));
        }
    }

    private static void storeWithoutCell() {
        Checks.sentence("Promise 16", "IllegalStateException when there is no such cell");
        Checks.dueThrow("store(0, 5) at 0", HeapClaims::new, STATE, x -> x.store(0, NIL));
        Checks.dueThrow("store(2, 0) at 7", Samples::busy, STATE, x -> x.store(2, 0));
        Checks.dueThrow("store(2, 2) at 7", Samples::busy, STATE, x -> x.store(2, 2));
        Checks.dueThrow("store(3, 0) at 0", Samples::busy, STATE, x -> x.store(3, 0));
        Supplier<HeapClaims> gone = RefusalsTest::withoutTheLast;
        Checks.dueThrow("store(4, 0) at a cell that is gone", gone, STATE, x -> x.store(4, 0));
        Checks.dueThrow("store(3, 0) at 0, eight cells elsewhere", gone, STATE, x -> x.store(3, 0));
        HeapClaims there = busy();
        there.store(0, 3);
        Checks.due("y needs no cell", there.next(1), 0);
    }

    private static void makeWithoutVariable() {
        Checks.sentence("Promise 17", "IndexOutOfBoundsException when there is no such variable");
        for (int no : NO_VARIABLES) {
            refused("make(" + no + ")", INDEX, x -> x.make(no));
        }
    }

    private static void makeWhenAllHaveOne() {
        Checks.sentence("Promise 17", "UnsupportedOperationException when all have one");
        for (int variable = 0; variable <= 4; variable++) {
            int x = variable;
            Checks.dueThrow("make(" + x + ")", Samples::full, UNSUPPORTED, y -> y.make(x));
        }
        HeapClaims made = new HeapClaims();
        for (int address = 1; address <= 9; address++) {
            made.make(0);
            Checks.due("value", made.value(0), address);
        }
        made.drop(0);
        made.make(1);
        Checks.due("the last address, free again", made.value(1), 9);
        Checks.dueThrow("a tenth", RefusalsTest::nineMade, UNSUPPORTED, y -> y.make(0));
        Checks.dueThrow("a tenth", RefusalsTest::nineMade, UNSUPPORTED, y -> y.make(1));
    }

    private static HeapClaims nineMade() {
        HeapClaims x = new HeapClaims();
        for (int n = 1; n <= 9; n++) {
            x.make(n % 2);
        }
        return x;
    }

    private static void dropWithoutVariable() {
        Checks.sentence("Promise 18", "IndexOutOfBoundsException when there is no such variable");
        for (int no : NO_VARIABLES) {
            refused("drop(" + no + ")", INDEX, x -> x.drop(no));
        }
    }

    private static void dropWithoutCell() {
        Checks.sentence("Promise 18", "IllegalStateException when there is no such cell");
        Checks.dueThrow("drop(0) at 0", HeapClaims::new, STATE, x -> x.drop(0));
        Checks.dueThrow("drop(2) at 7", Samples::busy, STATE, x -> x.drop(2));
        Checks.dueThrow("drop(3) at 0", Samples::busy, STATE, x -> x.drop(3));
        Supplier<HeapClaims> gone = RefusalsTest::withoutTheLast;
        Checks.dueThrow("drop(4) twice", gone, STATE, x -> x.drop(4));
        Checks.dueThrow("drop(3) at 0, eight cells elsewhere", gone, STATE, x -> x.drop(3));
        Supplier<HeapClaims> byAnother = () -> {
            HeapClaims x = busy();
            x.copy(4, 0);
            x.drop(0);
            return x;
        };
        Checks.dueThrow("drop(4), gone by another variable", byAnother, STATE, x -> x.drop(4));
    }

    private static void valueWithoutTerm() {
        Checks.sentence("Promise 19", "IndexOutOfBoundsException when there is no such term");
        for (int no : NO_TERMS) {
            refused("value(" + no + ")", INDEX, x -> x.value(no));
        }
    }

    private static void firstNamedIsThrown() {
        Checks.sentence("Terms",
                "where several exceptions that a call names fit, the one named first is thrown");
        for (int no : NO_TERMS) {
            Checks.dueThrow("piece, claim full", Samples::full, INDEX, x -> x.piece(0, no, 0, LIST));
            Checks.dueThrow("piece, claim full", Samples::full, INDEX, x -> x.piece(1, 0, no, CELL));
            Checks.dueThrow("store, no cell", Samples::busy, INDEX, x -> x.store(2, no));
            for (int what : NO_WHATS) {
                refused("sure(" + what + ", " + no + ", 0)", INDEX, x -> x.sure(what, no, 0));
                refused("sure(" + what + ", 0, " + no + ")", INDEX, x -> x.sure(what, 0, no));
            }
        }
        for (int no : NO_CLAIMS) {
            Checks.dueThrow("piece, both full", Samples::full, INDEX, x -> x.piece(no, 0, 0, LIST));
        }
        for (int no : NO_VARIABLES) {
            for (int v : NO_VALUES) {
                refused("give(" + no + ", " + v + ")", INDEX, x -> x.give(no, v));
            }
            Checks.dueThrow("load, no cell", Samples::busy, INDEX, x -> x.load(no, 2));
            Checks.dueThrow("load, no cell", HeapClaims::new, INDEX, x -> x.load(no, 0));
            Checks.dueThrow("load, no cell at NIL", Samples::busy, INDEX, x -> x.load(2, no));
            Checks.dueThrow("store, no cells", HeapClaims::new, INDEX, x -> x.store(no, 0));
            Checks.dueThrow("drop, no cells", HeapClaims::new, INDEX, x -> x.drop(no));
            Checks.dueThrow("make, all have one", Samples::full, INDEX, x -> x.make(no));
        }
    }

    /** Many refused calls on one object, with no look at it in between, beside a twin without them. */
    private static void changesNothing() {
        Checks.sentence("Terms", "A call that throws changes nothing");
        for (Supplier<HeapClaims> sample : all()) {
            HeapClaims x = sample.get();
            HeapClaims twin = sample.get();
            Checks.due("calls that threw", refuseMany(x), 26);
            Checks.due("what shows", Look.at(x), Look.at(twin));
            goOn(x);
            goOn(twin);
            Checks.due("what shows after more calls", Look.at(x), Look.at(twin));
        }
    }

    private static int refuseMany(HeapClaims some) {
        Checks.Call[] calls = {
            x -> x.pair(2, 0, 1, OTHER), x -> x.pair(0, 6, 1, OTHER), x -> x.pair(1, 0, 6, SAME),
            x -> x.piece(-1, 0, 1, LIST), x -> x.piece(0, -1, 1, LIST), x -> x.piece(1, 0, 6, CELL),
            x -> x.clear(2), x -> x.pieces(2), x -> x.possible(-1), x -> x.holds(2),
            x -> x.sure(0, 6, 0), x -> x.sure(3, 0, 0), x -> x.give(5, 3), x -> x.give(0, 10),
            x -> x.put(0, 3), x -> x.put(3, 10), x -> x.put(10, 3), x -> x.copy(5, 0),
            x -> x.copy(0, 6), x -> x.load(5, 0), x -> x.load(0, 5), x -> x.store(5, 0),
            x -> x.store(0, 6), x -> x.make(5), x -> x.drop(5), x -> x.value(6)};
        int threw = 0;
        for (Checks.Call call : calls) {
            try {
                call.on(some);
            } catch (IndexOutOfBoundsException | IllegalArgumentException e) {
                threw++;
            }
        }
        return threw;
    }

    private static void goOn(HeapClaims x) {
        x.swap();
        x.pair(0, 1, 2, OTHER);
        if (x.pieces(0) < 5) {
            x.piece(0, 2, 3, LIST);
        }
        x.give(3, 4);
        x.put(4, 3);
        x.store(3, 0);
        x.load(1, 3);
        x.drop(3);
        x.make(2);
    }
}
