import java.util.Random;

/** Claims to try out, the same ones each time; right claims often lie near to what left implies. */
final class RandomClaims {
    private final Random random;
    private final int variables;

    RandomClaims(long seed, int variables) {
        this.random = new Random(seed);
        this.variables = variables;
    }

    PlainClaim left(int mostPairs, int mostPieces) {
        PlainClaim claim = new PlainClaim();
        addPairs(claim, mostPairs);
        int pieces = random.nextInt(mostPieces + 1);
        for (int i = 0; i < pieces; i++) {
            claim.pieces.add(piece());
        }
        return claim;
    }

    /** Left's pieces, some dropped, some made lists, some that meet joined; seldom a stray one. */
    PlainClaim right(PlainClaim left) {
        PlainClaim claim = new PlainClaim();
        if (random.nextInt(6) == 0) {
            addPairs(claim, 1);
        }
        for (PlainClaim.Piece p : left.pieces) {
            if (random.nextInt(5) != 0) {
                boolean list = p.list() || random.nextInt(3) == 0;
                claim.pieces.add(new PlainClaim.Piece(p.x(), p.y(), list));
            }
        }
        int joins = random.nextInt(4);
        for (int i = 0; i < joins; i++) {
            join(claim);
        }
        if (claim.pieces.size() < 5 && random.nextInt(5) == 0) {
            claim.pieces.add(piece());
        }
        return claim;
    }

    PlainClaim.State state() {
        int[] values = new int[6];
        for (int t = 0; t < 5; t++) {
            values[t] = random.nextInt(10);
        }
        int[] nexts = new int[10];
        for (int address = 0; address <= 9; address++) {
            nexts[address] = address == 0 || random.nextBoolean() ? -1 : random.nextInt(10);
        }
        return new PlainClaim.State(values, nexts);
    }

    private void join(PlainClaim claim) {
        for (int i = 0; i < claim.pieces.size(); i++) {
            for (int j = 0; j < claim.pieces.size(); j++) {
                PlainClaim.Piece p = claim.pieces.get(i);
                PlainClaim.Piece q = claim.pieces.get(j);
                if (i != j && p.y() == q.x() && random.nextBoolean()) {
                    claim.pieces.set(i, new PlainClaim.Piece(p.x(), q.y(), true));
                    claim.pieces.remove(j);
                    return;
                }
            }
        }
    }

    private void addPairs(PlainClaim claim, int most) {
        int pairs = random.nextInt(most + 1);
        for (int i = 0; i < pairs; i++) {
            claim.pairs.add(new PlainClaim.Pair(term(), term(), random.nextInt(4) != 0));
        }
    }

    private PlainClaim.Piece piece() {
        return new PlainClaim.Piece(term(), term(), random.nextInt(3) != 0);
    }

    private int term() {
        int t = random.nextInt(variables + 1);
        return t == variables ? 5 : t;
    }
}
