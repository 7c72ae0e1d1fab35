import java.util.ArrayList;
import java.util.Arrays;
import java.util.List;

/** States to look through, made in two ways that know nothing of how the program decides. */
final class PlainStates {
    private static final int ROOM = 40;

    private PlainStates() {
    }

    /**
     * All states, up to the names of addresses, whose variables 0 .. variables - 1 and cells are
     * within addresses 1 .. greatest; the other variables are 0.
     */
    static List<PlainClaim.State> all(int variables, int greatest) {
        List<int[]> heaps = new ArrayList<>();
        addHeaps(heaps, new int[greatest + 1], 0);
        List<PlainClaim.State> states = new ArrayList<>();
        for (int[] values : partings(variables)) {
            for (int[] heap : heaps) {
                states.add(new PlainClaim.State(values, heap));
            }
        }
        return states;
    }

    private static void addHeaps(List<int[]> heaps, int[] nexts, int address) {
        if (address == nexts.length) {
            heaps.add(nexts.clone());
            return;
        }
        int greatest = address == 0 ? -1 : nexts.length - 1;
        for (int next = -1; next <= greatest; next++) {
            nexts[address] = next;
            addHeaps(heaps, nexts, address + 1);
        }
    }

    /** Values for the terms in all ways to be equal or not; new values are the least not used. */
    static List<int[]> partings(int variables) {
        List<int[]> all = new ArrayList<>();
        addPartings(all, new int[6], 0, variables, 0);
        return all;
    }

    private static void addPartings(List<int[]> all, int[] values, int t, int variables, int top) {
        if (t == variables) {
            all.add(values.clone());
            return;
        }
        for (int v = 0; v <= top + 1; v++) {
            values[t] = v;
            addPartings(all, values, t + 1, variables, Math.max(top, v));
        }
        values[t] = 0;
    }

    /**
     * States of which the claim is true: each list with other variables' addresses inside it in all
     * orders, or without them, and up to nameless cells in a row (1 or 2) before, between, behind.
     */
    static List<PlainClaim.State> of(PlainClaim claim, int nameless) {
        return of(claim, 5, nameless);
    }

    /** Such states, but with variables from there on being 0. */
    static List<PlainClaim.State> of(PlainClaim claim, int variables, int nameless) {
        List<PlainClaim.State> found = new ArrayList<>();
        for (int[] values : partings(variables)) {
            int[] nexts = new int[ROOM];
            Arrays.fill(nexts, -1);
            new Growth(claim, values, nameless, found).piece(0, nexts, 10);
        }
        return found;
    }

    private record Growth(
            PlainClaim claim, int[] values, int nameless, List<PlainClaim.State> found) {
        void piece(int place, int[] nexts, int fresh) {
            if (place == claim.pieces.size()) {
                PlainClaim.State s = new PlainClaim.State(values, nexts.clone());
                if (claim.isTrueOf(s)) {
                    found.add(s);
                }
                return;
            }
            PlainClaim.Piece p = claim.pieces.get(place);
            int x = values[p.x()];
            int y = values[p.y()];
            if (p.list() && x == y) {
                piece(place + 1, nexts, fresh);
            } else if (x != 0 && nexts[x] < 0) {
                if (p.list()) {
                    list(place, nexts, fresh, x, 0);
                } else {
                    nexts[x] = y;
                    piece(place + 1, nexts, fresh);
                    nexts[x] = -1;
                }
            }
        }

        /** The list has come to a cell at this address, which has no next as yet. */
        private void list(int place, int[] nexts, int fresh, int at, int row) {
            int y = values[claim.pieces.get(place).y()];
            nexts[at] = y;
            piece(place + 1, nexts, fresh);
            for (int v = 1; v <= 5; v++) {
                if (isValue(v) && nexts[v] < 0 && v != y) {
                    nexts[at] = v;
                    list(place, nexts, fresh, v, 0);
                }
            }
            if (row < nameless) {
                nexts[at] = fresh;
                list(place, nexts, fresh + 1, fresh, row + 1);
            }
            nexts[at] = -1;
        }

        private boolean isValue(int v) {
            for (int value : values) {
                if (value == v) {
                    return true;
                }
            }
            return false;
        }
    }
}
