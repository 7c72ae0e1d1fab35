import java.util.Arrays;

/**
 * Claims about variables and the cells that hang together on a heap: whether one claim follows from
 * another one in all states whatever, what is sure by a claim, what is left over, and whether a
 * claim is true of one state, whose cells small steps change.
 */
public final class HeapClaims {
    public static final int NONE = -1;

    private static final int VARIABLES = 5;
    private static final int TERMS = 6;
    private static final int MOST_PIECES = 5;
    private static final int GREATEST_VALUE = 9;

    /** In how many ways six terms can have equal and different values (the sixth Bell number). */
    private static final int CASES = 203;

    private static final int EQUAL = 0;
    private static final int DIFFERENT = 1;
    private static final int HAS_CELL = 2;

    private Claim left;
    private Claim right;
    private final Heap state;
    private final Cases cases;

    public HeapClaims() {
        left = new Claim();
        right = new Claim();
        state = new Heap(GREATEST_VALUE);
        cases = new Cases();
    }

    public void pair(int claim, int a, int b, boolean other) throws IndexOutOfBoundsException {
        Claim changed = claimAt(claim);
        checkTerm(a);
        checkTerm(b);
        changed.addPair(a, b, other);
    }

    public int piece(int claim, int x, int y, boolean list)
            throws IndexOutOfBoundsException, IllegalStateException {
        Claim changed = claimAt(claim);
        checkTerm(x);
        checkTerm(y);
        if (changed.size == MOST_PIECES) {
            throw new IllegalStateException("the claim has 5 pieces");
        }
        changed.addPiece(x, y, list);
        return changed.size - 1;
    }

    public void clear(int claim) throws IndexOutOfBoundsException {
        claimAt(claim).forgetAll();
    }

    public void swap() {
        Claim kept = left;
        left = right;
        right = kept;
    }

    public int pieces(int claim) throws IndexOutOfBoundsException {
        return claimAt(claim).size;
    }

    public boolean possible(int claim) throws IndexOutOfBoundsException {
        Claim asked = claimAt(claim);
        cases.begin(asked.named);
        boolean more = true;
        for (int n = 0; n < CASES && more; n++) {
            if (cases.draw(asked)) {
                return true;
            }
            more = cases.advance();
        }
        return false;
    }

    public boolean implies() {
        // No piece left over by the least frame means that right alone follows.
        return leastFrame() == 0;
    }

    public boolean sure(int what, int a, int b)
            throws IndexOutOfBoundsException, IllegalArgumentException {
        checkTerm(a);
        checkTerm(b);
        if (what != EQUAL && what != DIFFERENT && what != HAS_CELL) {
            throw new IllegalArgumentException("what is 0, 1 or 2");
        }
        cases.begin(left.named | 1 << a | 1 << b);
        boolean more = true;
        for (int n = 0; n < CASES && more; n++) {
            if (cases.draw(left) && !isSo(what, a, b)) {
                return false;
            }
            more = cases.advance();
        }
        return true;
    }

    public int frame() {
        return leastFrame();
    }

    public void give(int variable, int v)
            throws IndexOutOfBoundsException, IllegalArgumentException {
        checkVariable(variable);
        checkValue(v);
        state.values[variable] = v;
    }

    public void put(int address, int next) throws IllegalArgumentException {
        if (address == 0) {
            throw new IllegalArgumentException("0 is no address");
        }
        checkValue(address);
        checkValue(next);
        state.setCell(address, next);
    }

    public boolean holds(int claim) throws IndexOutOfBoundsException {
        return state.takenBy(claimAt(claim)) == state.filled;
    }

    public void copy(int x, int y) throws IndexOutOfBoundsException {
        checkVariable(x);
        checkTerm(y);
        state.values[x] = state.values[y];
    }

    public void load(int x, int y) throws IndexOutOfBoundsException, IllegalStateException {
        checkVariable(x);
        checkVariable(y);
        checkCell(state.values[y]);
        state.values[x] = state.ends[state.values[y]];
    }

    public void store(int x, int y) throws IndexOutOfBoundsException, IllegalStateException {
        checkVariable(x);
        checkTerm(y);
        checkCell(state.values[x]);
        state.setCell(state.values[x], state.values[y]);
    }

    public void make(int x) throws IndexOutOfBoundsException, UnsupportedOperationException {
        checkVariable(x);
        int address = state.leastFreeAddress();
        if (address == NONE) {
            throw new UnsupportedOperationException("all addresses have a cell");
        }
        state.values[x] = address;
        state.setCell(address, 0);
    }

    public void drop(int x) throws IndexOutOfBoundsException, IllegalStateException {
        checkVariable(x);
        checkCell(state.values[x]);
        state.removeCell(state.values[x]);
    }

    public int value(int term) throws IndexOutOfBoundsException {
        checkTerm(term);
        return state.values[term];
    }

    public int next(int address) {
        return state.hasCell(address) ? state.ends[address] : NONE;
    }

    public int count() {
        return Integer.bitCount(state.filled);
    }

    private Claim claimAt(int claim) {
        if (claim != 0 && claim != 1) {
            throw new IndexOutOfBoundsException("claims are 0 and 1");
        }
        return claim == 0 ? left : right;
    }

    private void checkTerm(int term) {
        if (term < 0 || term >= TERMS) {
            throw new IndexOutOfBoundsException("terms are 0 .. 5");
        }
    }

    private void checkVariable(int variable) {
        if (variable < 0 || variable >= VARIABLES) {
            throw new IndexOutOfBoundsException("variables are 0 .. 4");
        }
    }

    private void checkValue(int v) {
        if (v < 0 || v > GREATEST_VALUE) {
            throw new IllegalArgumentException("values are 0 .. 9");
        }
    }

    private void checkCell(int address) {
        if (!state.hasCell(address)) {
            throw new IllegalStateException("there is no such cell");
        }
    }

    private boolean isSo(int what, int a, int b) {
        Heap heap = cases.heap;
        if (what == HAS_CELL) {
            // A variable that no piece begins at can lie outside of all cells.
            return heap.hasCell(heap.values[a]);
        }
        return (heap.values[a] == heap.values[b]) == (what == EQUAL);
    }

    /**
     * The least frame, or NONE. In each case right takes whole pieces of left; those that it leaves
     * must be in the frame, those that it takes must not, and pieces without cells are of no matter.
     * So one look at each case serves all frames at once.
     */
    private int leastFrame() {
        int needed = 0;
        int barred = 0;
        cases.begin(left.named | right.named);
        boolean more = true;
        for (int n = 0; n < CASES && more; n++) {
            if (cases.draw(left)) {
                int taken = cases.heap.takenBy(right);
                if (taken == NONE) {
                    return NONE;
                }
                barred |= taken;
                needed |= cases.heap.filled & ~taken;
                if ((needed & barred) != 0) {
                    return NONE;
                }
            }
            more = cases.advance();
        }
        return needed;
    }

    /** Pairs and pieces. */
    private static final class Claim {
        /** By term a: the bits of the terms b of its SAME pairs a b, and of its OTHER pairs. */
        private final int[] same = new int[TERMS];
        private final int[] other = new int[TERMS];

        private final int[] from = new int[MOST_PIECES];
        private final int[] to = new int[MOST_PIECES];
        private final boolean[] list = new boolean[MOST_PIECES];
        private int size;

        /** Bits of the terms that some pair or piece names. */
        private int named;

        void addPair(int a, int b, boolean isOther) {
            if (isOther) {
                other[a] |= 1 << b;
            } else {
                same[a] |= 1 << b;
            }
            named |= 1 << a | 1 << b;
        }

        void addPiece(int x, int y, boolean isList) {
            from[size] = x;
            to[size] = y;
            list[size] = isList;
            size++;
            named |= 1 << x | 1 << y;
        }

        void forgetAll() {
            Arrays.fill(same, 0);
            Arrays.fill(other, 0);
            size = 0;
            named = 0;
        }

        boolean pairsFit(int[] values) {
            for (int a = 0; a < TERMS; a++) {
                if ((same[a] | other[a]) != 0) {
                    int peers = termsEqualTo(a, values);
                    if ((same[a] & ~peers) != 0 || (other[a] & peers) != 0) {
                        return false;
                    }
                }
            }
            return true;
        }

        private static int termsEqualTo(int a, int[] values) {
            int bits = 0;
            for (int b = 0; b < TERMS; b++) {
                if (values[b] == values[a]) {
                    bits |= 1 << b;
                }
            }
            return bits;
        }
    }

    /**
     * Values of the terms, and stretches of cells that begin at addresses. A stretch is one cell, or
     * a LONG one: two cells or more of which only the first has an address that a term surely has.
     * The state at hand has cells alone.
     */
    private static final class Heap {
        /** By term; that of NIL stays 0. */
        private final int[] values = new int[TERMS];

        private final int greatest;

        /** By address: the next of the last cell of the stretch that begins there, or NONE. */
        private final int[] ends;

        private final boolean[] isLong;

        /** By address: the bit that stands for the stretch in takenBy and filled. */
        private final int[] bits;

        private int filled;

        Heap(int greatest) {
            this.greatest = greatest;
            ends = new int[greatest + 1];
            isLong = new boolean[greatest + 1];
            bits = new int[greatest + 1];
            Arrays.fill(ends, NONE);
        }

        boolean hasCell(int address) {
            return address >= 1 && address <= greatest && ends[address] != NONE;
        }

        void setCell(int address, int next) {
            setStretch(address, next, false, 1 << address);
        }

        void setStretch(int address, int end, boolean asLong, int bit) {
            ends[address] = end;
            isLong[address] = asLong;
            bits[address] = bit;
            filled |= bit;
        }

        void removeCell(int address) {
            ends[address] = NONE;
            filled &= ~bits[address];
        }

        void removeAll() {
            Arrays.fill(ends, NONE);
            filled = 0;
        }

        int leastFreeAddress() {
            for (int address = 1; address <= greatest; address++) {
                if (ends[address] == NONE) {
                    return address;
                }
            }
            return NONE;
        }

        /**
         * The bits of the stretches that the claim's pieces have between them. NONE when the claim,
         * whatever else is added to it, is false of some state that looks like this heap. The
         * values leave no choice which cells a piece has, so nothing need be tried out.
         */
        int takenBy(Claim claim) {
            if (!claim.pairsFit(values)) {
                return NONE;
            }
            int taken = 0;
            for (int p = 0; p < claim.size; p++) {
                int start = values[claim.from[p]];
                int end = values[claim.to[p]];
                int found = claim.list[p] ? takenByList(start, end) : takenByCell(start, end);
                if (found == NONE || (found & taken) != 0) {
                    return NONE;
                }
                taken |= found;
            }
            return taken;
        }

        private int takenByCell(int start, int end) {
            if (!hasCell(start) || isLong[start] || ends[start] != end) {
                return NONE;
            }
            return bits[start];
        }

        private int takenByList(int start, int end) {
            boolean endIsLoose = end != 0 && !hasCell(end);
            int taken = 0;
            int at = start;
            for (int steps = 0; steps < greatest && at != end; steps++) {
                if (!hasCell(at)) {
                    return NONE;
                }
                // A loose end may lie inside a long stretch that does not end at it: then the list
                // would break off there, and no piece could have the rest of the stretch.
                if (endIsLoose && isLong[at] && ends[at] != end) {
                    return NONE;
                }
                taken |= bits[at];
                at = ends[at];
            }
            // Whoever has not arrived after as many steps as there are addresses goes in a circle.
            return at == end ? taken : NONE;
        }
    }

    /**
     * All cases of which terms have equal values, one after the other, each with the heap that a
     * claim makes there. Lists that have cells are drawn long: whatever is true of those is true of
     * lists with one cell, too.
     */
    private static final class Cases {
        /** Equal terms have the same value, each new one the least that no earlier term has. */
        private final Heap heap = new Heap(VARIABLES);

        private int named;

        /** Starts again. Variables that are not named matter to nothing and stay as they are. */
        void begin(int namedTerms) {
            named = namedTerms;
            Arrays.fill(heap.values, 0);
        }

        /** Goes to the next case; false when there is none. */
        boolean advance() {
            int[] values = heap.values;
            for (int t = VARIABLES - 1; t >= 0; t--) {
                if ((named & 1 << t) != 0) {
                    if (values[t] <= greatestBefore(t)) {
                        values[t]++;
                        return true;
                    }
                    values[t] = 0;
                }
            }
            return false;
        }

        private int greatestBefore(int variable) {
            int greatest = 0;
            for (int t = 0; t < variable; t++) {
                greatest = Math.max(greatest, heap.values[t]);
            }
            return greatest;
        }

        /** Makes the claim's heap; false when the claim is true of no state of this case. */
        boolean draw(Claim claim) {
            if (!claim.pairsFit(heap.values)) {
                return false;
            }
            heap.removeAll();
            for (int p = 0; p < claim.size; p++) {
                int start = heap.values[claim.from[p]];
                int end = heap.values[claim.to[p]];
                boolean hasNoCells = claim.list[p] && start == end;
                if (!hasNoCells) {
                    if (start == 0 || heap.hasCell(start)) {
                        return false;
                    }
                    heap.setStretch(start, end, claim.list[p], 1 << p);
                }
            }
            return true;
        }
    }
}
