/** Promises 11 to 21, what is done and answered: each sentence by itself. RefusalsTest has the rest. */
public final class StateTest extends Samples {
    public static void main(String[] args) {
        Checks.each(
                StateTest::give,
                StateTest::putNew,
                StateTest::putAgain,
                StateTest::holds,
                StateTest::copy,
                StateTest::copyOfNil,
                StateTest::load,
                StateTest::store,
                StateTest::storeOfNil,
                StateTest::makeAddress,
                StateTest::makeCell,
                StateTest::drop,
                StateTest::value,
                StateTest::next,
                StateTest::nextOfNone,
                StateTest::count,
                StateTest::claimsStay);
        Checks.end("StateTest");
    }

    private static void give() {
        Checks.sentence("Promise 11", "A variable of the state at hand gets a value");
        for (int variable = 0; variable <= 4; variable++) {
            HeapClaims x = busy();
            for (int v = 0; v <= 9; v++) {
                x.give(variable, v);
                for (int term = 0; term <= 5; term++) {
                    int due = term == variable ? v : busy().value(term);
                    Checks.due("value(" + term + ")", x.value(term), due);
                }
            }
            Checks.due("no cells come or go", x.count(), 2);
        }
    }

    private static void putNew() {
        Checks.sentence("Promise 12", "The state at hand gets a cell");
        HeapClaims x = new HeapClaims();
        x.put(1, 9);
        x.put(9, 0);
        x.put(5, 5);
        Checks.due("count", x.count(), 3);
        Checks.due("next(1)", x.next(1), 9);
        Checks.due("next(9)", x.next(9), 0);
        Checks.due("next(5)", x.next(5), 5);
        Checks.due("next(4)", x.next(4), NONE);
        for (int address = 1; address <= 9; address++) {
            x.put(address, 9 - address);
        }
        Checks.due("all have one", x.count(), 9);
        for (int variable = 0; variable <= 4; variable++) {
            Checks.due("no variable changes", x.value(variable), 0);
        }
    }

    private static void putAgain() {
        Checks.sentence("Promise 12", "or what it has there gets another next");
        HeapClaims x = full();
        for (int address = 1; address <= 9; address++) {
            x.put(address, 0);
            Checks.due("next", x.next(address), 0);
            Checks.due("count", x.count(), 9);
            x.put(address, address);
            Checks.due("next, to itself", x.next(address), address);
        }
        x.drop(0);
        x.put(1, 3);
        Checks.due("gone and put again", x.next(1), 3);
        Checks.due("count", x.count(), 9);
    }

    private static void holds() {
        Checks.sentence("Promise 13", "Whether a claim is true of the state at hand");
        HeapClaims x = busy();
        Checks.due("left", x.holds(0), true);
        Checks.due("right, whose pair is not", x.holds(1), false);
        x.give(3, 7);
        Checks.due("right", x.holds(1), true);
        x.put(9, 9);
        Checks.due("a cell is left", x.holds(1), false);
        x.piece(1, 4, 4, CELL);
        Checks.due("the cell is elsewhere", x.holds(1), false);
        x.give(4, 9);
        Checks.due("a ring", x.holds(1), true);
        x.swap();
        Checks.due("swapped", x.holds(0), true);
        Checks.due("swapped", x.holds(1), false);
        HeapClaims five = full();
        Checks.due("five pieces, nine cells", five.holds(0), true);
        five.pair(0, 3, NIL, SAME);
        Checks.due("and a pair that is not", five.holds(0), false);
        HeapClaims none = new HeapClaims();
        none.pair(0, 1, 1, OTHER);
        Checks.due("what is not possible", none.holds(0), false);
    }

    private static void copy() {
        Checks.sentence("Promise 14", "The variable x gets the value of the variable y");
        HeapClaims x = busy();
        x.copy(3, 2);
        Checks.due("value(3)", x.value(3), 7);
        Checks.due("value(2) stays", x.value(2), 7);
        x.give(2, 8);
        Checks.due("value(3) is its own", x.value(3), 7);
        x.copy(2, 2);
        Checks.due("itself", x.value(2), 8);
        x.copy(3, 4);
        Checks.due("of a variable that is 0", x.value(3), 0);
        Checks.due("no cells come or go", x.count(), 2);
    }

    private static void copyOfNil() {
        Checks.sentence("Promise 14", "of NIL 0, when y is that");
        for (int variable = 0; variable <= 4; variable++) {
            HeapClaims x = full();
            x.copy(variable, NIL);
            Checks.due("value(" + variable + ")", x.value(variable), 0);
            Checks.due("value(5)", x.value(NIL), 0);
        }
    }

    private static void load() {
        Checks.sentence("Promise 15", "The variable x gets the next of the cell at the value of y");
        HeapClaims x = busy();
        x.load(4, 0);
        Checks.due("value(4)", x.value(4), 2);
        Checks.due("value(0) stays", x.value(0), 1);
        x.load(0, 0);
        Checks.due("over itself", x.value(0), 2);
        x.load(0, 0);
        Checks.due("a next that is 0", x.value(0), 0);
        Checks.due("the cells stay", x.next(1) * 10 + x.next(2), 20);
        HeapClaims far = new HeapClaims();
        far.give(3, 9);
        far.put(9, 9);
        far.load(2, 3);
        Checks.due("at 9, to 9", far.value(2), 9);
        far.put(9, 5);
        far.load(2, 2);
        Checks.due("a next without a cell", far.value(2), 5);
    }

    private static void store() {
        Checks.sentence("Promise 16",
                "The cell at the value of the variable x gets the value of the term y as its next");
        HeapClaims x = busy();
        x.store(1, 2);
        Checks.due("next(2)", x.next(2), 7);
        Checks.due("next(1) stays", x.next(1), 2);
        x.store(1, 1);
        Checks.due("its own address", x.next(2), 2);
        x.give(3, 9);
        x.store(1, 3);
        Checks.due("9", x.next(2), 9);
        Checks.due("no cells come or go", x.count(), 2);
        Checks.due("value(1) stays", x.value(1), 2);
        Checks.due("value(2) stays", x.value(2), 7);
    }

    private static void storeOfNil() {
        Checks.sentence("Promise 16", "the value of the term y");
        HeapClaims x = busy();
        x.store(0, NIL);
        Checks.due("next(1), of NIL", x.next(1), 0);
        x.store(0, 1);
        x.store(0, 4);
        Checks.due("next(1), of a variable that is 0", x.next(1), 0);
    }

    private static void makeAddress() {
        Checks.sentence("Promise 17", "The variable x gets the least address 1 .. 9 that has no cell");
        HeapClaims x = busy();
        x.make(2);
        Checks.due("after 1 and 2", x.value(2), 3);
        x.drop(0);
        x.make(4);
        Checks.due("one that is free again", x.value(4), 1);
        for (int address = 4; address <= 9; address++) {
            x.make(3);
            Checks.due("one after the other", x.value(3), address);
        }
        for (int gap = 1; gap <= 9; gap++) {
            HeapClaims y = full();
            y.give(1, gap);
            y.drop(1);
            y.make(0);
            Checks.due("the only one", y.value(0), gap);
            Checks.due("count", y.count(), 9);
        }
        HeapClaims two = full();
        two.drop(4);
        two.drop(2);
        two.make(4);
        Checks.due("the lesser of two", two.value(4), 5);
        two.make(4);
        Checks.due("then the other", two.value(4), 9);
    }

    private static void makeCell() {
        Checks.sentence("Promise 17", "and that gets one, with next 0");
        HeapClaims x = new HeapClaims();
        x.make(3);
        Checks.due("next(1)", x.next(1), 0);
        Checks.due("count", x.count(), 1);
        x.store(3, 3);
        x.drop(3);
        x.make(0);
        Checks.due("next(1), free again", x.next(1), 0);
        Checks.due("value(3) stays", x.value(3), 1);
        Checks.due("value(1) stays", x.value(1), 0);
        x.make(0);
        Checks.due("what it had stays", x.next(1), 0);
        Checks.due("count", x.count(), 2);
    }

    private static void drop() {
        Checks.sentence("Promise 18", "The cell at the value of the variable x goes");
        HeapClaims x = busy();
        x.give(4, 1);
        x.drop(4);
        Checks.due("next(1)", x.next(1), NONE);
        Checks.due("next(2) stays", x.next(2), 0);
        Checks.due("value(4) stays", x.value(4), 1);
        Checks.due("count", x.count(), 1);
        Checks.due("holds(0)", x.holds(0), false);
        x.drop(1);
        Checks.due("none is left", x.count(), 0);
        x.clear(0);
        Checks.due("holds(0), no cells", x.holds(0), true);
        HeapClaims all = full();
        for (int address = 9; address >= 1; address--) {
            all.give(2, address);
            all.drop(2);
            Checks.due("count", all.count(), address - 1);
        }
        HeapClaims into = busy();
        into.drop(1);
        Checks.due("a next that led to it stays", into.next(1), 2);
    }

    private static void value() {
        Checks.sentence("Promise 19", "The value of a term in the state at hand");
        HeapClaims x = full();
        for (int variable = 0; variable <= 4; variable++) {
            Checks.due("value(" + variable + ")", x.value(variable), 1 + 2 * variable);
        }
        Checks.due("value(5)", x.value(NIL), 0);
        x.pair(0, 0, NIL, SAME);
        x.possible(0);
        x.frame();
        Checks.due("claims do not matter", x.value(0), 1);
    }

    private static void next() {
        Checks.sentence("Promise 20", "The next of the cell at an address of the state at hand");
        HeapClaims x = full();
        for (int address = 1; address <= 9; address++) {
            Checks.due("next(" + address + ")", x.next(address), address % 9 + 1);
        }
        x.put(1, 0);
        Checks.due("next(1), to 0", x.next(1), 0);
    }

    private static void nextOfNone() {
        Checks.sentence("Promise 20", "NONE when there is none");
        HeapClaims x = busy();
        for (int address = 3; address <= 9; address++) {
            Checks.due("next(" + address + ")", x.next(address), NONE);
        }
        for (int no : NO_ADDRESSES) {
            Checks.due("next(" + no + ")", x.next(no), NONE);
            Checks.due("next(" + no + "), all have one", full().next(no), NONE);
            Checks.due("next(" + no + "), none has one", new HeapClaims().next(no), NONE);
        }
        x.drop(0);
        Checks.due("next(1), gone", x.next(1), NONE);
    }

    private static void count() {
        Checks.sentence("Promise 21", "How many cells the state at hand has");
        HeapClaims x = new HeapClaims();
        Checks.due("none", x.count(), 0);
        for (int n = 1; n <= 9; n++) {
            x.put(10 - n, n);
            Checks.due("put", x.count(), n);
            x.put(10 - n, 0);
            Checks.due("put again", x.count(), n);
        }
        x.give(0, 4);
        x.drop(0);
        Checks.due("after drop", x.count(), 8);
        x.make(0);
        Checks.due("after make", x.count(), 9);
        x.piece(0, 0, 1, CELL);
        x.swap();
        x.clear(1);
        Checks.due("claims are no cells", x.count(), 9);
    }

    private static void claimsStay() {
        Checks.sentence("Not promised",
                "Nothing is promised beyond the answers and state changes described above");
        HeapClaims x = full();
        for (int variable = 0; variable <= 4; variable++) {
            x.drop(variable);
            x.copy(variable, NIL);
            x.make(variable);
            x.store(variable, variable);
            x.load(variable, variable);
        }
        Checks.due("pieces(0)", x.pieces(0), 5);
        Checks.due("implies", x.implies(), true);
        x.clear(1);
        Checks.due("frame", x.frame(), 31);
    }
}
