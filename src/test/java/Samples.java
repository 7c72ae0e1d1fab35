import java.util.List;
import java.util.function.Supplier;

/** Objects to try things on, wrong inputs, and short words for both. */
abstract class Samples {
    static final int NIL = 5;
    static final int NONE = -1;
    static final boolean LIST = true;
    static final boolean CELL = false;
    static final boolean OTHER = true;
    static final boolean SAME = false;

    private static final int MIN = Integer.MIN_VALUE;
    private static final int MAX = Integer.MAX_VALUE;

    /** Just outside, and numbers that a cast, a mask or a shift would bring back inside. */
    static final int[] NO_CLAIMS = {MIN, MIN + 1, -256, -2, -1, 2, 3, 4, 32, 256, 257, 65536, MAX};
    static final int[] NO_TERMS =
            {MIN, MIN + 1, -32, -6, -5, -1, 6, 7, 8, 10, 32, 37, 64, 256, 261, 65536, MAX};
    static final int[] NO_VARIABLES =
            {MIN, MIN + 1, -32, -5, -1, 5, 6, 7, 8, 10, 32, 36, 64, 256, 260, 65536, MAX};
    static final int[] NO_VALUES = {MIN, MIN + 9, -16, -9, -1, 10, 11, 16, 32, 256, 265, 65536, MAX};
    static final int[] NO_ADDRESSES = {MIN, MIN + 9, -16, -9, -1, 0, 10, 11, 17, 33, 256, 257, 65537, MAX};
    static final int[] NO_WHATS = {MIN, MIN + 1, -2, -1, 3, 4, 32, 256, 258, 65536, MAX};

    static final Class<?> INDEX = IndexOutOfBoundsException.class;
    static final Class<?> STATE = IllegalStateException.class;
    static final Class<?> ARGUMENT = IllegalArgumentException.class;
    static final Class<?> UNSUPPORTED = UnsupportedOperationException.class;

    static int[] cell(int x, int y) {
        return new int[] {x, y, 0};
    }

    static int[] list(int x, int y) {
        return new int[] {x, y, 1};
    }

    /** A new object whose left claim has the pieces. */
    static HeapClaims left(int[]... pieces) {
        return both(pieces.length, pieces);
    }

    /** A new object whose right claim has the pieces. */
    static HeapClaims right(int[]... pieces) {
        return both(0, pieces);
    }

    /** A new object: so many of the pieces go to left, the others to right. */
    static HeapClaims both(int leftPieces, int[]... pieces) {
        HeapClaims x = new HeapClaims();
        for (int i = 0; i < pieces.length; i++) {
            x.piece(i < leftPieces ? 0 : 1, pieces[i][0], pieces[i][1], pieces[i][2] == 1);
        }
        return x;
    }

    /** Something in every part, and room in every part: no cell at 0 and at the values of 2, 3, 4. */
    static HeapClaims busy() {
        HeapClaims x = both(2, list(0, 1), cell(1, NIL), list(0, NIL));
        x.pair(0, 0, 1, OTHER);
        x.pair(1, 2, 3, SAME);
        x.give(0, 1);
        x.give(1, 2);
        x.give(2, 7);
        x.put(1, 2);
        x.put(2, 0);
        return x;
    }

    /** Both claims have 5 pieces, all nine addresses have cells; both hold, left implies right. */
    static HeapClaims full() {
        HeapClaims x = both(5, list(0, 1), list(1, 2), list(2, 3), list(3, 4), cell(4, 0),
                list(0, 2), list(2, 4), cell(4, 0), list(NIL, NIL), list(1, 1));
        x.pair(0, 0, 2, OTHER);
        x.pair(0, 4, 2, OTHER);
        for (int variable = 0; variable <= 4; variable++) {
            x.give(variable, 1 + 2 * variable);
        }
        for (int address = 1; address <= 9; address++) {
            x.put(address, address % 9 + 1);
        }
        return x;
    }

    static HeapClaims swapped() {
        HeapClaims x = busy();
        x.swap();
        return x;
    }

    /** Full once, and without all that again. */
    static HeapClaims emptied() {
        HeapClaims x = full();
        x.clear(0);
        x.clear(1);
        for (int address = 1; address <= 9; address++) {
            x.give(0, address);
            x.drop(0);
        }
        for (int variable = 0; variable <= 4; variable++) {
            x.give(variable, 0);
        }
        return x;
    }

    static List<Supplier<HeapClaims>> all() {
        return List.of(HeapClaims::new, Samples::busy, Samples::full, Samples::swapped, Samples::emptied);
    }
}
