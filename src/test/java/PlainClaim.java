import java.util.ArrayList;
import java.util.List;

/** A claim, and its truth as the document's words define it, for states of any size. */
final class PlainClaim {
    record Pair(int a, int b, boolean other) {
    }

    record Piece(int x, int y, boolean list) {
    }

    /** Values by term (that of NIL is 0); nexts by address, -1 where there is no cell. */
    record State(int[] values, int[] nexts) {
    }

    final List<Pair> pairs = new ArrayList<>();
    final List<Piece> pieces = new ArrayList<>();

    PlainClaim with(List<Piece> more) {
        PlainClaim both = new PlainClaim();
        both.pairs.addAll(pairs);
        both.pieces.addAll(pieces);
        both.pieces.addAll(more);
        return both;
    }

    PlainClaim and(Pair more) {
        PlainClaim both = with(List.of());
        both.pairs.add(more);
        return both;
    }

    void tell(HeapClaims x, int claim) {
        for (Pair p : pairs) {
            x.pair(claim, p.a(), p.b(), p.other());
        }
        for (Piece p : pieces) {
            x.piece(claim, p.x(), p.y(), p.list());
        }
    }

    boolean isTrueOf(State s) {
        for (Pair p : pairs) {
            if ((s.values()[p.a()] == s.values()[p.b()]) == p.other()) {
                return false;
            }
        }
        boolean[] given = new boolean[s.nexts().length];
        int cells = 0;
        for (int next : s.nexts()) {
            cells += next >= 0 ? 1 : 0;
        }
        return canPart(s, 0, given, cells);
    }

    /** Tries every set of cells that the piece at the place may have, then the pieces behind it. */
    private boolean canPart(State s, int place, boolean[] given, int cellsLeft) {
        if (place == pieces.size()) {
            return cellsLeft == 0;
        }
        Piece p = pieces.get(place);
        int x = s.values()[p.x()];
        int y = s.values()[p.y()];
        if (p.list() && x == y) {
            return canPart(s, place + 1, given, cellsLeft);
        }
        boolean[] now = given.clone();
        int at = x;
        for (int n = 1; at > 0 && s.nexts()[at] >= 0 && !now[at]; n++) {
            if (p.list() && at == y) {
                return false;
            }
            now[at] = true;
            at = s.nexts()[at];
            if (at == y && canPart(s, place + 1, now, cellsLeft - n)) {
                return true;
            }
            if (!p.list()) {
                return false;
            }
        }
        return false;
    }

    @Override
    public String toString() {
        return pairs + " " + pieces;
    }
}
