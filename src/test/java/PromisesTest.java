/** Each promise by itself: ordinary inputs, the edges that the document names, wrong inputs. */
public final class PromisesTest {
    private static final int NIL = 5;
    private static final boolean LIST = true;
    private static final boolean CELL = false;
    private static final boolean OTHER = true;
    private static final boolean SAME = false;
    private static final int[] NO_TERMS = {Integer.MIN_VALUE, -1, 6, 7, 32, Integer.MAX_VALUE};
    private static final int[] NO_VARIABLES = {Integer.MIN_VALUE, -1, 5, 6, 32, Integer.MAX_VALUE};
    private static final int[] NO_CLAIMS = {Integer.MIN_VALUE, -1, 2, 3, Integer.MAX_VALUE};
    private static final int[] NO_VALUES = {Integer.MIN_VALUE, -1, 10, 11, Integer.MAX_VALUE};
    private static final Class<?> INDEX = IndexOutOfBoundsException.class;
    private static final Class<?> STATE = IllegalStateException.class;
    private static final Class<?> ARGUMENT = IllegalArgumentException.class;
    private static final Class<?> UNSUPPORTED = UnsupportedOperationException.class;

    public static void main(String[] args) {
        newObject();
        pair();
        piece();
        clear();
        swap();
        pieces();
        possible();
        implies();
        impliesWithVariablesInsideLists();
        sure();
        frame();
        give();
        put();
        holds();
        copy();
        load();
        store();
        make();
        drop();
        valueNextCount();
        fullLife();
        Checks.end("PromisesTest");
    }

    /** An object with something in every part, for calls that must change nothing. */
    private static HeapClaims busy() {
        HeapClaims x = new HeapClaims();
        x.pair(0, 0, 1, OTHER);
        x.piece(0, 0, 1, LIST);
        x.piece(0, 1, NIL, CELL);
        x.pair(1, 2, 3, SAME);
        x.piece(1, 0, NIL, LIST);
        x.give(0, 1);
        x.give(1, 2);
        x.give(2, 7);
        x.put(1, 2);
        x.put(2, 0);
        return x;
    }

    private static void newObject() {
        HeapClaims x = new HeapClaims();
        for (int claim = 0; claim <= 1; claim++) {
            Checks.due("1 pieces", x.pieces(claim), 0);
            Checks.due("1 possible", x.possible(claim), true);
            Checks.due("1 holds", x.holds(claim), true);
        }
        Checks.due("1 implies", x.implies(), true);
        Checks.due("1 frame", x.frame(), 0);
        Checks.due("1 count", x.count(), 0);
        for (int term = 0; term <= 5; term++) {
            Checks.due("1 value", x.value(term), 0);
        }
        for (int address = 0; address <= 10; address++) {
            Checks.due("1 next", x.next(address), HeapClaims.NONE);
        }
        HeapClaims y = busy();
        Checks.due("1 objects are apart", Look.at(x).equals(Look.at(new HeapClaims())), true);
        Checks.due("1 objects are apart", Look.at(y).equals(Look.at(busy())), true);
    }

    private static void pair() {
        HeapClaims x = new HeapClaims();
        x.pair(0, 0, 1, SAME);
        x.pair(0, 2, 1, SAME);
        Checks.due("2 same", x.sure(0, 0, 2), true);
        Checks.due("2 same", x.sure(0, 0, 3), false);
        x.pair(0, 3, 2, OTHER);
        Checks.due("2 other", x.sure(1, 0, 3), true);
        Checks.due("2 implies with other in left", x.implies(), true);
        x.pair(1, 0, 3, OTHER);
        Checks.due("2 implies other", x.implies(), true);
        x.pair(1, 3, NIL, OTHER);
        Checks.due("2 implies too much", x.implies(), false);
        String before = Look.at(x);
        x.pair(0, 0, 1, SAME);
        x.pair(0, 1, 0, SAME);
        x.pair(0, 3, 2, OTHER);
        x.pair(0, 4, 4, SAME);
        Checks.due("2 pairs it has already", before.equals(Look.at(x)), true);
        x.pair(0, 4, 4, OTHER);
        Checks.due("2 other than itself", x.possible(0), false);
        Checks.due("2 the other claim stays", x.possible(1), true);
        HeapClaims y = busy();
        for (int no : NO_CLAIMS) {
            Checks.dueThrow("2 claim " + no, y, INDEX, () -> y.pair(no, 0, 0, OTHER));
        }
        for (int no : NO_TERMS) {
            Checks.dueThrow("2 a " + no, y, INDEX, () -> y.pair(0, no, 0, OTHER));
            Checks.dueThrow("2 b " + no, y, INDEX, () -> y.pair(1, 0, no, SAME));
        }
        manyPairs();
    }

    private static void manyPairs() {
        HeapClaims x = new HeapClaims();
        for (int i = 0; i < 500; i++) {
            int a = i / 2 % 6;
            int b = i / 12 % 6;
            x.pair(i % 2, a, b, a == b ? SAME : OTHER);
        }
        Checks.due("2 all terms are other", x.possible(0), true);
        Checks.due("2 all terms are other", x.sure(1, 3, NIL), true);
        Checks.due("2 all terms are other", x.implies(), true);
    }

    private static void piece() {
        HeapClaims x = new HeapClaims();
        for (int place = 0; place < 5; place++) {
            Checks.due("3 place", x.piece(1, place, 5 - place, place % 2 == 0), place);
        }
        Checks.dueThrow("3 a sixth", x, STATE, () -> x.piece(1, 0, 0, LIST));
        Checks.dueThrow("3 index is first", x, INDEX, () -> x.piece(1, 6, 0, LIST));
        Checks.dueThrow("3 index is first", x, INDEX, () -> x.piece(1, 0, -1, LIST));
        Checks.due("3 the other claim", x.piece(0, 0, NIL, CELL), 0);
        Checks.due("3 the other claim", x.pieces(0), 1);
        Checks.due("3 NIL may be x", x.piece(0, NIL, NIL, LIST), 1);
        HeapClaims y = busy();
        for (int no : NO_CLAIMS) {
            Checks.dueThrow("3 claim " + no, y, INDEX, () -> y.piece(no, 0, 0, LIST));
        }
        for (int no : NO_TERMS) {
            Checks.dueThrow("3 x " + no, y, INDEX, () -> y.piece(0, no, 0, LIST));
            Checks.dueThrow("3 y " + no, y, INDEX, () -> y.piece(1, 0, no, CELL));
        }
    }

    private static void clear() {
        HeapClaims x = busy();
        x.clear(0);
        Checks.due("4 no pieces", x.pieces(0), 0);
        Checks.due("4 no pairs", x.sure(1, 0, 1), false);
        Checks.due("4 the other claim stays", x.pieces(1), 1);
        Checks.due("4 place starts again", x.piece(0, 3, 4, CELL), 0);
        Checks.due("4 old terms are gone", x.sure(2, 0, 0), false);
        x.clear(0);
        x.pair(0, 1, 2, SAME);
        x.pair(0, 1, 2, OTHER);
        x.clear(0);
        Checks.due("4 possible again", x.possible(0), true);
        Checks.due("4 no SAME pair", x.sure(0, 1, 2), false);
        Checks.due("4 no OTHER pair", x.sure(1, 1, 2), false);
        x.clear(1);
        Checks.due("4 implies again", x.implies(), true);
        Checks.due("4 the state stays", x.count(), 2);
        HeapClaims y = busy();
        for (int no : NO_CLAIMS) {
            Checks.dueThrow("4 claim " + no, y, INDEX, () -> y.clear(no));
        }
    }

    private static void swap() {
        HeapClaims x = busy();
        x.pair(0, 4, 4, OTHER);
        x.swap();
        Checks.due("5 pieces", x.pieces(0), 1);
        Checks.due("5 pieces", x.pieces(1), 2);
        Checks.due("5 pairs", x.possible(0), true);
        Checks.due("5 pairs", x.possible(1), false);
        Checks.due("5 sure is by left", x.sure(0, 2, 3), true);
        x.clear(1);
        Checks.due("5 not the same claim", x.pieces(0), 1);
        x.swap();
        Checks.due("5 back", x.pieces(0), 0);
        Checks.due("5 the state stays", x.value(2), 7);
    }

    private static void pieces() {
        HeapClaims x = new HeapClaims();
        x.pair(0, 0, 1, OTHER);
        Checks.due("6 pairs are no pieces", x.pieces(0), 0);
        x.piece(0, 1, 1, LIST);
        x.piece(0, 1, 1, LIST);
        Checks.due("6 alike pieces count", x.pieces(0), 2);
        Checks.due("6 the other claim", x.pieces(1), 0);
        for (int no : NO_CLAIMS) {
            Checks.dueThrow("6 claim " + no, x, INDEX, () -> x.pieces(no));
        }
    }

    private static HeapClaims told(int claim, int[]... pieces) {
        HeapClaims x = new HeapClaims();
        for (int[] p : pieces) {
            x.piece(claim, p[0], p[1], p[2] == 1);
        }
        return x;
    }

    private static int[] cell(int x, int y) {
        return new int[] {x, y, 0};
    }

    private static int[] list(int x, int y) {
        return new int[] {x, y, 1};
    }

    private static void possible() {
        Checks.due("7 a cell at 0", told(1, cell(NIL, 0)).possible(1), false);
        Checks.due("7 a list from 0 to 0", told(1, list(NIL, NIL)).possible(1), true);
        Checks.due("7 a list from 0", told(1, list(NIL, 0)).possible(1), true);
        HeapClaims x = told(0, list(NIL, 0));
        x.pair(0, 0, NIL, OTHER);
        Checks.due("7 a list from 0 to an address", x.possible(0), false);
        Checks.due("7 one cell twice", told(0, cell(0, 1), cell(0, 1)).possible(0), false);
        Checks.due("7 a cell to itself", told(0, cell(0, 0)).possible(0), true);
        Checks.due("7 lists that start alike", told(0, list(0, 1), list(0, 2)).possible(0), true);
        HeapClaims y = told(0, list(0, 1), list(0, 2));
        y.pair(0, 0, 1, OTHER);
        Checks.due("7 one of them empty", y.possible(0), true);
        y.pair(0, 0, 2, OTHER);
        Checks.due("7 none of them empty", y.possible(0), false);
        Checks.due("7 the other claim", y.possible(1), true);
        HeapClaims z = told(0, cell(0, 1), cell(1, 2), cell(2, 3), cell(3, 4), cell(4, 0));
        Checks.due("7 a ring of five", z.possible(0), true);
        z.pair(0, 1, 4, SAME);
        Checks.due("7 a ring that meets itself", z.possible(0), false);
        for (int no : NO_CLAIMS) {
            Checks.dueThrow("7 claim " + no, y, INDEX, () -> y.possible(no));
        }
    }

    private static HeapClaims both(int leftPieces, int[]... pieces) {
        HeapClaims x = new HeapClaims();
        for (int i = 0; i < pieces.length; i++) {
            x.piece(i < leftPieces ? 0 : 1, pieces[i][0], pieces[i][1], pieces[i][2] == 1);
        }
        return x;
    }

    private static void implies() {
        Checks.due("8 cell, list", both(1, cell(0, NIL), list(0, NIL)).implies(), true);
        HeapClaims x = both(1, cell(0, 1), list(0, 1));
        Checks.due("8 the cell may be a ring", x.implies(), false);
        x.pair(0, 0, 1, OTHER);
        Checks.due("8 the cell is no ring", x.implies(), true);
        Checks.due("8 list, cell", both(1, list(0, NIL), cell(0, NIL)).implies(), false);
        Checks.due("8 itself", both(1, cell(0, 0), cell(0, 0)).implies(), true);
        Checks.due("8 no cells, list", both(0, list(0, 1)).implies(), false);
        Checks.due("8 no cells, empty list", both(0, list(4, 4)).implies(), true);
        Checks.due("8 cells, nothing", both(1, cell(0, 1)).implies(), false);
        Checks.due("8 empty list, nothing", both(1, list(0, 0)).implies(), true);
        Checks.due("8 two cells for one", both(2, cell(0, NIL), cell(1, 2), cell(0, NIL)).implies(), false);
        Checks.due("8 one for two", both(1, cell(0, NIL), cell(0, NIL), cell(0, NIL)).implies(), false);
        HeapClaims y = both(1, list(0, 1), cell(0, 1), list(1, 1));
        y.pair(0, 0, 1, OTHER);
        Checks.due("8 a list may be long", y.implies(), false);
        HeapClaims z = both(1, cell(0, 0), cell(3, 3));
        Checks.due("8 an impossible left: before", z.implies(), false);
        z.pair(0, 1, 1, OTHER);
        Checks.due("8 an impossible left", z.implies(), true);
        HeapClaims v = both(2, cell(0, 1), list(1, 2), cell(0, 1), list(1, 2));
        v.pair(1, 0, 2, OTHER);
        Checks.due("8 right's pair is not sure", v.implies(), false);
        HeapClaims five = both(5, list(0, 1), list(1, 2), list(2, 3), list(3, 4), list(4, NIL), list(0, NIL));
        Checks.due("8 five lists", five.implies(), true);
        five.swap();
        Checks.due("8 five lists", five.implies(), false);
    }

    private static void impliesWithVariablesInsideLists() {
        HeapClaims x = both(2, list(0, 1), list(1, 2), list(0, 2));
        Checks.due("8 the end may be the start", x.implies(), false);
        x.pair(0, 0, 2, OTHER);
        Checks.due("8 the end may lie inside the first list", x.implies(), false);
        x.piece(0, 2, 3, CELL);
        x.piece(1, 2, 3, CELL);
        Checks.due("8 the end has a cell of its own", x.implies(), true);
        HeapClaims y = both(2, cell(0, 1), list(1, 2), list(0, 2));
        y.pair(0, 0, 2, OTHER);
        Checks.due("8 no end inside one cell or its own list", y.implies(), true);
        HeapClaims z = both(2, list(0, 1), cell(1, 2), list(0, 2));
        z.pair(0, 0, 2, OTHER);
        Checks.due("8 the end may lie inside before a cell", z.implies(), false);
        HeapClaims v = both(1, list(0, NIL), list(0, 1), list(1, NIL));
        Checks.due("8 a variable need not be inside", v.implies(), false);
        v.swap();
        Checks.due("8 lists to NIL join", v.implies(), true);
    }

    private static void sure() {
        HeapClaims x = both(2, list(0, 1), cell(1, 2));
        Checks.due("9 equal to itself", x.sure(0, 3, 3), true);
        Checks.due("9 equal", x.sure(0, 0, 1), false);
        Checks.due("9 other", x.sure(1, 0, 1), false);
        Checks.due("9 a cell is not at 0", x.sure(1, 1, NIL), true);
        Checks.due("9 there is a cell at 1", x.sure(2, 1, 4), true);
        Checks.due("9 a list has no cell or one", x.sure(2, 0, 0), true);
        Checks.due("9 none at NIL", x.sure(2, NIL, 0), false);
        Checks.due("9 none at a variable not named", x.sure(2, 3, 0), false);
        Checks.due("9 none at the end", x.sure(2, 2, 0), false);
        Checks.due("9 variables not named are neither", x.sure(0, 3, 4), false);
        Checks.due("9 variables not named are neither", x.sure(1, 3, 4), false);
        HeapClaims y = both(2, list(0, 1), list(0, 2));
        y.pair(0, 1, 2, OTHER);
        Checks.due("9 one of two lists has cells", y.sure(2, 0, 0), true);
        Checks.due("9 so 0 is an address", y.sure(1, NIL, 0), true);
        y.pair(0, 0, 2, OTHER);
        Checks.due("9 so the other has none", y.sure(0, 1, 0), true);
        y.pair(0, 0, 1, OTHER);
        for (int what = 0; what <= 2; what++) {
            Checks.due("9 all is sure by what is not possible", y.sure(what, NIL, NIL), true);
        }
        for (int no : NO_TERMS) {
            Checks.dueThrow("9 a " + no, x, INDEX, () -> x.sure(0, no, 0));
            Checks.dueThrow("9 b " + no, x, INDEX, () -> x.sure(2, 0, no));
            Checks.dueThrow("9 index is first", x, INDEX, () -> x.sure(3, 0, no));
        }
        for (int no : new int[] {Integer.MIN_VALUE, -1, 3, 4, Integer.MAX_VALUE}) {
            Checks.dueThrow("9 what " + no, x, ARGUMENT, () -> x.sure(no, 0, 0));
        }
    }

    private static void frame() {
        HeapClaims x = both(3, cell(0, 1), cell(1, 2), cell(2, 3), cell(1, 2));
        Checks.due("10 cells at both sides", x.frame(), 5);
        x.piece(1, 0, 1, CELL);
        Checks.due("10 one cell", x.frame(), 4);
        x.piece(1, 4, NIL, CELL);
        Checks.due("10 right has too much", x.frame(), HeapClaims.NONE);
        HeapClaims all = both(5, cell(0, 0), cell(1, 1), list(2, 3), list(3, 4), list(4, NIL));
        Checks.due("10 all is left over", all.frame(), 31);
        all.piece(1, 2, NIL, LIST);
        Checks.due("10 three lists go", all.frame(), 3);
        HeapClaims y = both(2, list(3, 3), list(0, NIL), list(0, NIL));
        Checks.due("10 empty pieces are not needed", y.frame(), 0);
        HeapClaims z = both(2, list(0, 1), list(0, 1), list(0, 1));
        Checks.due("10 not two of them", z.frame(), 0);
        z.clear(1);
        Checks.due("10 both empty: no cells", z.frame(), 0);
        HeapClaims v = both(2, list(0, NIL), list(1, NIL), list(0, NIL));
        v.pair(1, 0, 1, OTHER);
        Checks.due("10 right's pairs count", v.frame(), HeapClaims.NONE);
        v.pair(0, 0, NIL, OTHER);
        Checks.due("10 right's pairs are sure", v.frame(), 2);
        HeapClaims six = both(5, list(0, NIL), list(1, NIL), list(2, NIL), list(3, NIL), list(4, NIL),
                list(NIL, NIL), list(0, 0), list(1, 1), list(2, 2), list(3, 3));
        Checks.due("10 more than five pieces", six.frame(), 31);
        HeapClaims bad = both(1, cell(0, 1), cell(2, 2));
        bad.pair(0, 0, NIL, SAME);
        Checks.due("10 an impossible left", bad.frame(), 0);
        Checks.due("10 changes nothing", bad.pieces(1), 1);
        HeapClaims w = both(2, list(0, 1), list(0, 2), list(0, 1));
        w.pair(0, 1, 2, OTHER);
        Checks.due("10 the other list if it has cells", w.frame(), 2);
        HeapClaims ring = both(1, cell(0, 1), list(0, 1));
        Checks.due("10 left over in a ring alone", ring.frame(), HeapClaims.NONE);
        ring.pair(0, 0, 1, OTHER);
        Checks.due("10 no ring", ring.frame(), 0);
        HeapClaims part = both(2, list(0, 1), list(1, 2), list(0, 2));
        Checks.due("10 the end may lie inside", part.frame(), HeapClaims.NONE);
    }

    private static void give() {
        HeapClaims x = new HeapClaims();
        for (int variable = 0; variable <= 4; variable++) {
            x.give(variable, 9 - variable);
        }
        for (int variable = 0; variable <= 4; variable++) {
            Checks.due("11 value", x.value(variable), 9 - variable);
        }
        x.give(4, 0);
        x.give(3, 9);
        Checks.due("11 another value", x.value(4) * 10 + x.value(3), 9);
        HeapClaims y = busy();
        for (int no : NO_VARIABLES) {
            Checks.dueThrow("11 variable " + no, y, INDEX, () -> y.give(no, 1));
            Checks.dueThrow("11 index is first", y, INDEX, () -> y.give(no, 10));
        }
        for (int no : NO_VALUES) {
            Checks.dueThrow("11 v " + no, y, ARGUMENT, () -> y.give(0, no));
        }
    }

    private static void put() {
        HeapClaims x = new HeapClaims();
        x.put(1, 9);
        x.put(9, 0);
        x.put(5, 5);
        Checks.due("12 count", x.count(), 3);
        Checks.due("12 next", x.next(1), 9);
        Checks.due("12 next", x.next(9), 0);
        x.put(1, 4);
        Checks.due("12 another next", x.next(1), 4);
        Checks.due("12 count stays", x.count(), 3);
        HeapClaims y = busy();
        for (int no : NO_VALUES) {
            Checks.dueThrow("12 address " + no, y, ARGUMENT, () -> y.put(no, 1));
            Checks.dueThrow("12 next " + no, y, ARGUMENT, () -> y.put(1, no));
        }
        Checks.dueThrow("12 address 0", y, ARGUMENT, () -> y.put(0, 1));
    }

    private static void holds() {
        HeapClaims x = busy();
        Checks.due("13 left", x.holds(0), true);
        Checks.due("13 right's pair", x.holds(1), false);
        x.give(3, 7);
        Checks.due("13 right", x.holds(1), true);
        x.put(9, 9);
        Checks.due("13 a cell is left over", x.holds(1), false);
        x.piece(1, 4, 4, CELL);
        Checks.due("13 the cell is elsewhere", x.holds(1), false);
        x.give(4, 9);
        Checks.due("13 a ring", x.holds(1), true);
        HeapClaims y = told(0, list(0, 1));
        y.give(0, 3);
        y.give(1, 4);
        y.put(3, 3);
        Checks.due("13 a ring is no list", y.holds(0), false);
        y.put(3, 4);
        Checks.due("13 the end needs no cell", y.holds(0), true);
        y.put(4, 3);
        Checks.due("13 the end's cell is not the list's", y.holds(0), false);
        y.piece(0, 1, 0, LIST);
        Checks.due("13 two lists in a ring", y.holds(0), true);
        longList();
        HeapClaims z = told(1, list(NIL, NIL), list(0, NIL));
        Checks.due("13 empty lists", z.holds(1), true);
        z.piece(1, NIL, NIL, CELL);
        Checks.due("13 no cell at 0", z.holds(1), false);
        HeapClaims v = told(0, list(0, NIL), cell(0, NIL));
        v.give(0, 1);
        v.put(1, 0);
        Checks.due("13 each cell to one piece", v.holds(0), false);
        HeapClaims w = told(0, cell(0, 1));
        w.give(0, 1);
        w.give(1, 2);
        w.put(1, 3);
        Checks.due("13 the cell's next is another", w.holds(0), false);
        w.put(1, 2);
        Checks.due("13 the cell's next is right", w.holds(0), true);
        HeapClaims right = both(1, cell(0, 1), cell(0, 2));
        Checks.due("8 the cell's next may be another", right.implies(), false);
        for (int no : NO_CLAIMS) {
            Checks.dueThrow("13 claim " + no, y, INDEX, () -> y.holds(no));
        }
    }

    private static void longList() {
        HeapClaims x = told(0, list(0, NIL));
        for (int address = 9; address >= 1; address--) {
            x.put(address, address - 1);
        }
        x.give(0, 9);
        Checks.due("13 nine cells", x.holds(0), true);
        x.give(0, 8);
        Checks.due("13 one is left over", x.holds(0), false);
        x.give(0, 9);
        x.put(1, 9);
        Checks.due("13 a ring of nine", x.holds(0), false);
        x.clear(0);
        x.piece(0, 0, 1, LIST);
        x.piece(0, 1, 0, LIST);
        x.give(1, 5);
        Checks.due("13 a ring of nine in two", x.holds(0), true);
    }

    private static void copy() {
        HeapClaims x = busy();
        x.copy(3, 2);
        Checks.due("14 copy", x.value(3), 7);
        Checks.due("14 what is copied stays", x.value(2), 7);
        x.copy(3, NIL);
        Checks.due("14 copy of NIL", x.value(3), 0);
        x.copy(2, 2);
        Checks.due("14 itself", x.value(2), 7);
        Checks.due("14 no cells change", x.count(), 2);
        for (int no : NO_VARIABLES) {
            Checks.dueThrow("14 x " + no, x, INDEX, () -> x.copy(no, 0));
        }
        for (int no : NO_TERMS) {
            Checks.dueThrow("14 y " + no, x, INDEX, () -> x.copy(0, no));
        }
    }

    private static void load() {
        HeapClaims x = busy();
        x.load(4, 0);
        Checks.due("15 load", x.value(4), 2);
        x.load(0, 0);
        Checks.due("15 over itself", x.value(0), 2);
        x.load(0, 0);
        Checks.due("15 the last next", x.value(0), 0);
        Checks.dueThrow("15 no cell at 0", x, STATE, () -> x.load(1, 0));
        Checks.dueThrow("15 no cell at 7", x, STATE, () -> x.load(1, 2));
        for (int no : NO_VARIABLES) {
            Checks.dueThrow("15 x " + no, x, INDEX, () -> x.load(no, 1));
            Checks.dueThrow("15 y " + no, x, INDEX, () -> x.load(1, no));
            Checks.dueThrow("15 index is first", x, INDEX, () -> x.load(no, 0));
        }
    }

    private static void store() {
        HeapClaims x = busy();
        x.store(1, 2);
        Checks.due("16 store", x.next(2), 7);
        x.store(1, 1);
        Checks.due("16 its own address", x.next(2), 2);
        x.store(1, NIL);
        Checks.due("16 NIL", x.next(2), 0);
        Checks.due("16 no new cells", x.count(), 2);
        Checks.due("16 no new value", x.value(1), 2);
        Checks.dueThrow("16 no cell at 7", x, STATE, () -> x.store(2, 0));
        Checks.dueThrow("16 no cell at 0", x, STATE, () -> x.store(3, 0));
        for (int no : NO_VARIABLES) {
            Checks.dueThrow("16 x " + no, x, INDEX, () -> x.store(no, 0));
        }
        for (int no : NO_TERMS) {
            Checks.dueThrow("16 y " + no, x, INDEX, () -> x.store(0, no));
            Checks.dueThrow("16 index is first", x, INDEX, () -> x.store(3, no));
        }
    }

    private static void make() {
        HeapClaims x = busy();
        x.make(2);
        Checks.due("17 the least address", x.value(2), 3);
        Checks.due("17 next 0", x.next(3), 0);
        x.put(3, 3);
        x.drop(0);
        x.make(4);
        Checks.due("17 an address that is free again", x.value(4), 1);
        Checks.due("17 next 0 again", x.next(1), 0);
        for (int address = 4; address <= 9; address++) {
            x.make(3);
            Checks.due("17 one after the other", x.value(3), address);
        }
        Checks.due("17 all", x.count(), 9);
        Checks.dueThrow("17 none is free", x, UNSUPPORTED, () -> x.make(0));
        for (int no : NO_VARIABLES) {
            Checks.dueThrow("17 index is first", x, INDEX, () -> x.make(no));
        }
        HeapClaims y = busy();
        for (int no : NO_VARIABLES) {
            Checks.dueThrow("17 x " + no, y, INDEX, () -> y.make(no));
        }
    }

    private static void drop() {
        HeapClaims x = busy();
        x.give(4, 1);
        x.drop(4);
        Checks.due("18 the cell is gone", x.next(1), HeapClaims.NONE);
        Checks.due("18 the value stays", x.value(4), 1);
        Checks.due("18 the others stay", x.next(2), 0);
        Checks.due("18 count", x.count(), 1);
        Checks.dueThrow("18 not twice", x, STATE, () -> x.drop(4));
        Checks.dueThrow("18 no cell at 0", x, STATE, () -> x.drop(3));
        for (int no : NO_VARIABLES) {
            Checks.dueThrow("18 x " + no, x, INDEX, () -> x.drop(no));
        }
        x.drop(1);
        Checks.due("18 all gone", x.count(), 0);
        Checks.due("18 nothing holds of it but no cells", x.holds(0), false);
        x.clear(0);
        Checks.due("18 no cells", x.holds(0), true);
    }

    private static void valueNextCount() {
        HeapClaims x = busy();
        Checks.due("19 value", x.value(2), 7);
        Checks.due("19 value of NIL", x.value(NIL), 0);
        for (int no : NO_TERMS) {
            Checks.dueThrow("19 term " + no, x, INDEX, () -> x.value(no));
        }
        Checks.due("20 next", x.next(1), 2);
        Checks.due("20 next 0", x.next(2), 0);
        for (int no : new int[] {Integer.MIN_VALUE, -1, 0, 3, 7, 9, 10, 33, Integer.MAX_VALUE}) {
            Checks.due("20 no cell at " + no, x.next(no), HeapClaims.NONE);
        }
        Checks.due("21 count", x.count(), 2);
        x.put(9, 9);
        Checks.due("21 count", x.count(), 3);
        x.clear(0);
        x.swap();
        Checks.due("21 claims are no cells", x.count(), 3);
    }

    /** 512 of the dearest calls on one object. */
    private static void fullLife() {
        HeapClaims x = both(5, list(0, 1), list(1, 2), list(2, 3), list(3, 4), list(4, NIL), list(0, NIL));
        int all = 0;
        for (int i = 0; i < 250; i++) {
            all += x.frame() == 0 && x.implies() ? 1 : 0;
        }
        Checks.due("8 and 10, over and over", all, 250);
    }
}
