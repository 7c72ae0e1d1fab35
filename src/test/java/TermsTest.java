/** The document's words before the promises: each sentence that names a boundary, by itself. */
public final class TermsTest extends Samples {
    public static void main(String[] args) {
        Checks.each(
                TermsTest::callsUpTo512,
                TermsTest::termsAndVariables,
                TermsTest::addressesWithoutBound,
                TermsTest::nilIsZero,
                TermsTest::differentAddresses,
                TermsTest::upToFivePieces,
                TermsTest::samePairs,
                TermsTest::otherPairs,
                TermsTest::eachCellToOnePiece,
                TermsTest::noneLeft,
                TermsTest::justTheCell,
                TermsTest::cellsNext,
                TermsTest::listWithoutCells,
                TermsTest::listOfOneCell,
                TermsTest::listOfDifferentCells,
                TermsTest::listFromItsStart,
                TermsTest::listUpToItsEnd,
                TermsTest::twoClaims,
                TermsTest::emptyAtFirst,
                TermsTest::impliesInAllStates,
                TermsTest::stateAtHand,
                TermsTest::stateAtFirst);
        Checks.end("TermsTest");
    }

    private static void callsUpTo512() {
        Checks.sentence("What it is", "An object is used for at most 512 calls");
        HeapClaims dear = both(5, list(0, 1), list(1, 2), list(2, 3), list(3, 4), list(4, NIL),
                list(0, NIL));
        for (int call = 7; call <= 512; call += 2) {
            Checks.due("call " + call, dear.frame(), 0);
            Checks.due("call " + (call + 1), dear.implies(), true);
        }
        HeapClaims pairs = new HeapClaims();
        for (int call = 1; call <= 511; call++) {
            pairs.pair(call % 2, call / 2 % 6, call / 12 % 6, call / 2 % 6 != call / 12 % 6);
        }
        Checks.due("call 512, after 511 pairs", pairs.implies(), true);
        HeapClaims pieces = new HeapClaims();
        for (int call = 1; call <= 510; call += 3) {
            Checks.due("call " + call, pieces.piece(0, 0, 1, CELL), 0);
            Checks.due("call " + (call + 1), pieces.piece(0, 1, NIL, LIST), 1);
            pieces.clear(0);
        }
        Checks.due("call 511", pieces.pieces(0), 0);
        Checks.due("call 512", pieces.possible(0), true);
        HeapClaims cells = new HeapClaims();
        for (int call = 1; call <= 510; call += 2) {
            cells.make(call % 5);
            cells.drop(call % 5);
        }
        cells.make(4);
        Checks.due("call 512", cells.value(4), 1);
    }

    private static void termsAndVariables() {
        Checks.sentence("Terms", "TERMS are 0 .. 5: the VARIABLES 0 .. 4, and 5, NIL");
        for (int a = 0; a <= 5; a++) {
            for (int b = 0; b <= 5; b++) {
                HeapClaims x = new HeapClaims();
                x.pair(0, a, b, SAME);
                Checks.due("sure(0, " + a + ", " + b + ")", x.sure(0, a, b), true);
                Checks.due("piece", x.piece(1, a, b, LIST), 0);
                Checks.due("LIST, equal", x.implies(), true);
                Checks.due("value(" + a + ")", x.value(a), 0);
            }
        }
        for (int a = 0; a <= 4; a++) {
            HeapClaims x = new HeapClaims();
            x.give(a, 9);
            Checks.due("give", x.value(a), 9);
            x.make(a);
            Checks.due("make", x.value(a), 1);
            x.store(a, a);
            Checks.due("store", x.next(1), 1);
            x.store(a, NIL);
            x.load(a, a);
            Checks.due("store of NIL, load", x.value(a), 0);
            x.give(a, 1);
            x.copy(4 - a, a);
            x.drop(4 - a);
            Checks.due("copy, drop", x.count(), 0);
            x.copy(a, NIL);
            Checks.due("copy of NIL", x.value(a), 0);
        }
    }

    /** What is asked of all states is not asked of those alone that the state at hand could have. */
    private static void addressesWithoutBound() {
        Checks.sentence("Terms", "an ADDRESS 1, 2, 3, .. (as great as you like)");
        for (int one = 0; one <= 4; one++) {
            HeapClaims x = new HeapClaims();
            for (int variable = 0; variable <= 4; variable++) {
                x.pair(0, variable, NIL, OTHER);
                x.pair(1, variable, NIL, OTHER);
                x.piece(0, variable, NIL, LIST);
                x.piece(1, variable, NIL, variable == one ? CELL : LIST);
            }
            Checks.due("five lists, one of them long", x.implies(), false);
            Checks.due("five lists, one of them long", x.frame(), NONE);
            x.swap();
            Checks.due("five lists, one of them a cell", x.implies(), true);
        }
        HeapClaims x = left(list(0, NIL), list(1, NIL), list(2, NIL), list(3, NIL));
        for (int variable = 0; variable <= 4; variable++) {
            x.pair(0, variable, NIL, OTHER);
        }
        Checks.due("sure(2, 4, 4), which may lie outside of the lists", x.sure(2, 4, 4), false);
        for (int variable = 0; variable <= 3; variable++) {
            Checks.due("sure(2, " + variable + ", 4)", x.sure(2, variable, 4), true);
            Checks.due("sure(1, 4, " + variable + ")", x.sure(1, 4, variable), false);
        }
    }

    private static void nilIsZero() {
        Checks.sentence("Terms", "the value of NIL is 0");
        HeapClaims x = full();
        Checks.due("value(5)", x.value(NIL), 0);
        x.give(4, 0);
        x.clear(0);
        x.pair(0, 4, NIL, SAME);
        x.pair(0, 3, NIL, OTHER);
        Checks.due("sure(0, 4, 5)", x.sure(0, 4, NIL), true);
        HeapClaims cell = left(cell(NIL, 0));
        Checks.due("CELL NIL 0, possible", cell.possible(0), false);
        HeapClaims list = left(list(NIL, 0));
        Checks.due("LIST NIL 0, possible", list.possible(0), true);
        Checks.due("LIST NIL 0, 0 is NIL", list.sure(0, 0, NIL), true);
        Checks.due("LIST NIL 0, holds", list.holds(0), true);
        list.give(0, 1);
        Checks.due("LIST NIL 0, 0 is an address", list.holds(0), false);
        list.pair(0, 0, NIL, OTHER);
        Checks.due("LIST NIL 0, 0 is not NIL", list.possible(0), false);
    }

    private static void differentAddresses() {
        Checks.sentence("Terms", "finitely many CELLS at different addresses");
        Checks.due("CELL 0 1, CELL 0 1", left(cell(0, 1), cell(0, 1)).possible(0), false);
        HeapClaims x = left(cell(0, 1), cell(2, 1));
        Checks.due("CELL 0 1, CELL 2 1", x.possible(0), true);
        Checks.due("0 and 2 are other", x.sure(1, 0, 2), true);
        x.pair(0, 0, 2, SAME);
        Checks.due("SAME 0 2", x.possible(0), false);
        HeapClaims ring = left(cell(0, 1), cell(1, 2), cell(2, 3), cell(3, 4), cell(4, 0));
        Checks.due("a ring of five", ring.possible(0), true);
        ring.pair(0, 1, 4, SAME);
        Checks.due("a ring that meets itself", ring.possible(0), false);
    }

    private static void upToFivePieces() {
        Checks.sentence("Terms", "PIECES, up to 5");
        HeapClaims x = full();
        Checks.due("pieces(0)", x.pieces(0), 5);
        Checks.due("pieces(1)", x.pieces(1), 5);
        Checks.due("implies", x.implies(), true);
        Checks.due("frame", x.frame(), 0);
        Checks.due("holds(0)", x.holds(0), true);
        Checks.due("holds(1)", x.holds(1), true);
        for (int place = 0; place < 5; place++) {
            HeapClaims y = new HeapClaims();
            for (int p = 0; p < 5; p++) {
                y.piece(0, p, NIL, p == place ? LIST : CELL);
                y.piece(1, p, NIL, CELL);
            }
            Checks.due("LIST at place " + place + ", CELL there", y.implies(), false);
            y.swap();
            Checks.due("CELL at place " + place + ", LIST there", y.implies(), true);
        }
    }

    private static void samePairs() {
        Checks.sentence("Terms", "the values of each SAME pair are equal");
        HeapClaims x = new HeapClaims();
        x.pair(0, 0, 1, SAME);
        Checks.due("holds, both 0", x.holds(0), true);
        x.give(0, 4);
        Checks.due("holds, 4 and 0", x.holds(0), false);
        x.give(1, 4);
        Checks.due("holds, both 4", x.holds(0), true);
        x.pair(0, 2, NIL, SAME);
        Checks.due("holds, 0 and NIL", x.holds(0), true);
        x.give(2, 9);
        Checks.due("holds, 9 and NIL", x.holds(0), false);
        x.pair(0, 3, 1, SAME);
        Checks.due("sure(0, 3, 0), by way of 1", x.sure(0, 3, 0), true);
    }

    private static void otherPairs() {
        Checks.sentence("Terms", "those of each OTHER pair are not");
        HeapClaims x = new HeapClaims();
        x.pair(1, 0, 1, OTHER);
        Checks.due("holds, both 0", x.holds(1), false);
        x.give(1, 9);
        Checks.due("holds, 0 and 9", x.holds(1), true);
        x.pair(1, NIL, 0, OTHER);
        Checks.due("holds, NIL and 0", x.holds(1), false);
        x.give(0, 1);
        Checks.due("holds, NIL and 1", x.holds(1), true);
        x.pair(1, 3, 3, OTHER);
        Checks.due("holds, a variable other than itself", x.holds(1), false);
        Checks.due("possible, a variable other than itself", x.possible(1), false);
        HeapClaims y = new HeapClaims();
        y.pair(0, NIL, NIL, OTHER);
        Checks.due("possible, NIL other than NIL", y.possible(0), false);
    }

    private static void eachCellToOnePiece() {
        Checks.sentence("Terms", "each cell to one piece");
        HeapClaims x = left(list(0, NIL), cell(0, NIL));
        x.give(0, 1);
        x.put(1, 0);
        Checks.due("holds, LIST and CELL for one cell", x.holds(0), false);
        Checks.due("possible, LIST and CELL for one cell", x.possible(0), false);
        HeapClaims y = left(list(0, NIL), list(1, NIL));
        y.give(0, 1);
        y.give(1, 2);
        y.put(1, 3);
        y.put(2, 3);
        y.put(3, 0);
        Checks.due("holds, two lists that meet", y.holds(0), false);
        y.put(2, 0);
        Checks.due("holds, two lists that do not", y.holds(0), true);
        Checks.due("implies, one for two",
                both(1, cell(0, NIL), cell(0, NIL), cell(0, NIL)).implies(), false);
        Checks.due("frame, one for two",
                both(1, cell(0, NIL), cell(0, NIL), cell(0, NIL)).frame(), NONE);
    }

    private static void noneLeft() {
        Checks.sentence("Terms", "and none left");
        HeapClaims x = left(cell(0, NIL));
        x.give(0, 1);
        x.put(1, 0);
        Checks.due("holds, none left", x.holds(0), true);
        for (int address = 2; address <= 9; address++) {
            x.put(address, 0);
            Checks.due("holds, one left at " + address, x.holds(0), false);
            x.give(1, address);
            x.drop(1);
        }
        Checks.due("holds, no pieces, a cell", x.holds(1), false);
        Checks.due("implies, no pieces, a cell", x.implies(), false);
        x.drop(0);
        Checks.due("holds, no pieces, no cell", x.holds(1), true);
        Checks.due("implies, two cells for one",
                both(2, cell(0, NIL), cell(1, 2), cell(0, NIL)).implies(), false);
    }

    private static void justTheCell() {
        Checks.sentence("Terms", "CELL x y has just the cell at the value of x");
        HeapClaims x = left(cell(0, 1));
        x.give(0, 3);
        Checks.due("holds, no cell", x.holds(0), false);
        x.put(4, 0);
        Checks.due("holds, a cell elsewhere", x.holds(0), false);
        HeapClaims y = left(cell(0, NIL));
        y.give(0, 2);
        y.put(2, 1);
        y.put(1, 0);
        Checks.due("holds, two cells in a row", y.holds(0), false);
        Checks.due("implies, a list may be long", both(1, list(0, NIL), cell(0, NIL)).implies(), false);
        HeapClaims z = both(1, list(0, NIL), cell(0, NIL));
        z.pair(0, 0, NIL, OTHER);
        Checks.due("implies, a list of one cell or more", z.implies(), false);
        Checks.due("possible, no cell at 0", left(cell(NIL, NIL)).possible(0), false);
        Checks.due("holds, no cell at 0", left(cell(NIL, NIL)).holds(0), false);
    }

    private static void cellsNext() {
        Checks.sentence("Terms", "its next being the value of y");
        HeapClaims x = left(cell(0, 1));
        x.give(0, 1);
        x.give(1, 2);
        x.put(1, 3);
        Checks.due("holds, next 3 for 2", x.holds(0), false);
        x.put(1, 0);
        Checks.due("holds, next 0 for 2", x.holds(0), false);
        x.put(1, 2);
        Checks.due("holds, next 2", x.holds(0), true);
        Checks.due("implies, 1 and 2 may be other", both(1, cell(0, 1), cell(0, 2)).implies(), false);
        HeapClaims self = left(cell(3, 3));
        self.give(3, 9);
        self.put(9, 9);
        Checks.due("holds, a cell to itself", self.holds(0), true);
        Checks.due("possible, a cell to itself", self.possible(0), true);
    }

    private static void listWithoutCells() {
        Checks.sentence("Terms", "LIST x y has none if the values of x and y are equal");
        HeapClaims x = left(list(0, 1));
        x.give(0, 5);
        x.give(1, 5);
        Checks.due("holds, no cells", x.holds(0), true);
        x.put(5, 5);
        Checks.due("holds, a ring is not the list's", x.holds(0), false);
        x.piece(0, 0, 0, CELL);
        Checks.due("holds, the ring is the cell's", x.holds(0), true);
        Checks.due("implies, LIST 4 4", right(list(4, 4)).implies(), true);
        Checks.due("implies, LIST NIL NIL", right(list(NIL, NIL)).implies(), true);
        Checks.due("possible, LIST NIL NIL", right(list(NIL, NIL)).possible(1), true);
        HeapClaims y = both(1, cell(0, 1), list(0, 1));
        Checks.due("implies, a cell that may be a ring", y.implies(), false);
        y.pair(0, 0, 1, OTHER);
        Checks.due("implies, a cell that is none", y.implies(), true);
        Checks.due("implies, a ring", both(1, cell(0, 0), list(0, 0)).implies(), false);
        Checks.due("sure of a cell, LIST 0 1", left(list(0, 1)).sure(2, 0, 0), false);
    }

    private static void listOfOneCell() {
        Checks.sentence("Terms", "n being 1 at least");
        HeapClaims x = left(list(0, 1));
        x.give(0, 3);
        x.give(1, 4);
        Checks.due("holds, no cell", x.holds(0), false);
        x.put(3, 4);
        Checks.due("holds, one cell", x.holds(0), true);
        Checks.due("implies, no cells", right(list(0, 1)).implies(), false);
        Checks.due("implies, one cell", both(1, cell(0, NIL), list(0, NIL)).implies(), true);
        x.pair(0, 0, 1, OTHER);
        Checks.due("sure of a cell", x.sure(2, 0, 0), true);
    }

    private static void listOfDifferentCells() {
        Checks.sentence("Terms", "all different");
        HeapClaims x = left(list(0, NIL));
        for (int address = 1; address <= 9; address++) {
            x.put(address, address - 1);
            x.give(0, address);
            Checks.due("holds, cells: " + address, x.holds(0), true);
        }
        for (int back = 1; back <= 9; back++) {
            x.put(1, back);
            Checks.due("holds, from the last back to " + back, x.holds(0), false);
        }
        HeapClaims y = both(2, list(0, 1), list(1, 0), list(0, NIL));
        y.pair(0, 0, 1, OTHER);
        Checks.due("implies, a ring is no list to NIL", y.implies(), false);
        Checks.due("frame, a ring is no list to NIL", y.frame(), NONE);
    }

    private static void listFromItsStart() {
        Checks.sentence("Terms", "a(1) the value of x, the next of each a(i) being a(i + 1)");
        HeapClaims x = left(list(0, NIL));
        for (int address = 1; address <= 9; address++) {
            x.put(address, address - 1);
        }
        x.give(0, 8);
        Checks.due("holds, one cell before the start", x.holds(0), false);
        x.give(0, 9);
        Checks.due("holds, from the first", x.holds(0), true);
        x.put(5, 3);
        Checks.due("holds, past one", x.holds(0), false);
        HeapClaims y = left(list(0, NIL));
        y.give(0, 9);
        y.put(9, 1);
        Checks.due("holds, broken off", y.holds(0), false);
        y.put(1, 0);
        Checks.due("holds, up to 0", y.holds(0), true);
    }

    private static void listUpToItsEnd() {
        Checks.sentence("Terms", "that of a(n) the value of y, and none of the a(i) being the value of y");
        HeapClaims x = left(list(0, 1));
        x.give(0, 3);
        x.give(1, 4);
        x.put(3, 4);
        x.put(4, 3);
        Checks.due("holds, the end's cell is not the list's", x.holds(0), false);
        x.put(4, 4);
        Checks.due("holds, nor is it when it is a ring", x.holds(0), false);
        x.piece(0, 1, 1, CELL);
        Checks.due("holds, it is the CELL's", x.holds(0), true);
        HeapClaims ring = left(list(0, 1), list(1, 0));
        for (int address = 1; address <= 9; address++) {
            ring.put(address, address % 9 + 1);
        }
        ring.give(0, 9);
        for (int end = 1; end <= 8; end++) {
            ring.give(1, end);
            Checks.due("holds, a ring in two lists", ring.holds(0), true);
        }
        endInsideOfAnotherList();
    }

    private static void endInsideOfAnotherList() {
        HeapClaims x = both(2, list(0, 1), list(1, 2), list(0, 2));
        x.pair(0, 0, 2, OTHER);
        Checks.due("implies, the end may lie inside the first list", x.implies(), false);
        x.give(0, 1);
        x.give(1, 3);
        x.give(2, 2);
        x.put(1, 2);
        x.put(2, 3);
        x.put(3, 2);
        Checks.due("holds, so left is true", x.holds(0), true);
        Checks.due("holds, and right is not", x.holds(1), false);
        x.piece(0, 2, 3, CELL);
        x.piece(1, 2, 3, CELL);
        Checks.due("implies, the end has a cell of its own", x.implies(), true);
        HeapClaims y = both(2, cell(0, 1), list(1, 2), list(0, 2));
        y.pair(0, 0, 2, OTHER);
        Checks.due("implies, no end inside one cell", y.implies(), true);
        HeapClaims z = both(2, list(0, 1), cell(1, 2), list(0, 2));
        z.pair(0, 0, 2, OTHER);
        Checks.due("implies, the end may lie before the cell", z.implies(), false);
        HeapClaims v = both(2, list(0, 1), list(1, NIL), list(0, NIL));
        Checks.due("implies, NIL lies in no list", v.implies(), true);
        v.swap();
        Checks.due("implies, a variable need not lie in it", v.implies(), false);
    }

    private static void twoClaims() {
        Checks.sentence("Terms", "There are two claims, LEFT 0 and RIGHT 1");
        HeapClaims x = both(1, cell(0, NIL), list(0, NIL));
        Checks.due("left implies right", x.implies(), true);
        Checks.due("sure is by left", x.sure(2, 0, 0), true);
        HeapClaims y = both(1, list(0, NIL), cell(0, NIL));
        Checks.due("right does not matter to sure", y.sure(2, 0, 0), false);
        Checks.due("left implies right", y.implies(), false);
        y.pair(1, 3, 3, OTHER);
        Checks.due("possible(0)", y.possible(0), true);
        Checks.due("possible(1)", y.possible(1), false);
        Checks.due("holds(0)", y.holds(0), true);
        Checks.due("holds(1)", y.holds(1), false);
    }

    private static void emptyAtFirst() {
        Checks.sentence("Terms",
                "both without pairs and pieces at first (so they are true of all states with no cells)");
        HeapClaims x = new HeapClaims();
        for (int claim = 0; claim <= 1; claim++) {
            Checks.due("pieces", x.pieces(claim), 0);
            Checks.due("possible", x.possible(claim), true);
        }
        for (int variable = 0; variable <= 4; variable++) {
            for (int v = 0; v <= 9; v++) {
                x.give(variable, v);
                Checks.due("holds(0)", x.holds(0), true);
                Checks.due("holds(1)", x.holds(1), true);
            }
        }
        Checks.due("implies", x.implies(), true);
        Checks.due("frame", x.frame(), 0);
        for (int a = 0; a <= 5; a++) {
            for (int b = 0; b <= 5; b++) {
                Checks.due("sure(0, " + a + ", " + b + ")", x.sure(0, a, b), a == b);
                Checks.due("sure(1, " + a + ", " + b + ")", x.sure(1, a, b), false);
                Checks.due("sure(2, " + a + ", " + b + ")", x.sure(2, a, b), false);
            }
        }
        x.put(1, 0);
        Checks.due("holds(0), a cell", x.holds(0), false);
        Checks.due("holds(1), a cell", x.holds(1), false);
    }

    private static void impliesInAllStates() {
        Checks.sentence("Terms", "Left IMPLIES right when right is true of all states of which left is");
        HeapClaims x = both(1, cell(0, 0), cell(3, 3));
        Checks.due("before", x.implies(), false);
        x.pair(0, 1, 1, OTHER);
        Checks.due("left is true of none", x.implies(), true);
        x.pair(1, 2, 2, OTHER);
        Checks.due("both are true of none", x.implies(), true);
        x.clear(0);
        Checks.due("right alone is true of none", x.implies(), false);
        HeapClaims y = right();
        y.pair(1, 0, 1, SAME);
        Checks.due("right is true of the state at hand alone", y.implies(), false);
        Checks.due("right is true of the state at hand", y.holds(1), true);
    }

    private static void stateAtHand() {
        Checks.sentence("Terms",
                "THE STATE AT HAND has values 0 .. 9 and cells at addresses 1 .. 9 alone");
        HeapClaims x = new HeapClaims();
        for (int v = 0; v <= 9; v++) {
            x.give(v % 5, v);
            Checks.due("value", x.value(v % 5), v);
            for (int address = 1; address <= 9; address++) {
                x.put(address, v);
                Checks.due("next", x.next(address), v);
            }
        }
        Checks.due("count", x.count(), 9);
        for (int no : NO_ADDRESSES) {
            Checks.due("next(" + no + ")", x.next(no), NONE);
        }
        for (int no : NO_VALUES) {
            Checks.dueThrow("give(0, " + no + ")", Samples::full, ARGUMENT, y -> y.give(0, no));
        }
        for (int no : NO_ADDRESSES) {
            Checks.dueThrow("put(" + no + ", 1)", Samples::full, ARGUMENT, y -> y.put(no, 1));
        }
    }

    private static void stateAtFirst() {
        Checks.sentence("Terms", "at first all values are 0 and there are no cells");
        HeapClaims busy = busy();
        HeapClaims x = new HeapClaims();
        for (int term = 0; term <= 5; term++) {
            Checks.due("value(" + term + ")", x.value(term), 0);
        }
        for (int address = -1; address <= 10; address++) {
            Checks.due("next(" + address + ")", x.next(address), NONE);
        }
        Checks.due("count", x.count(), 0);
        Checks.due("another object keeps its cells", busy.count(), 2);
    }
}
