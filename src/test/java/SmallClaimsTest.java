import java.util.ArrayList;
import java.util.List;

/**
 * Promises 7, 8 and 10 against the document's definition, for every two claims that there are with
 * up to two pieces each and few variables, left with pairs too.
 */
public final class SmallClaimsTest {
    private static final int NIL = 5;

    public static void main(String[] args) {
        List<PlainClaim> ofTwo = claims(0, 1, NIL);
        for (PlainClaim left : ofTwo) {
            for (PlainClaim paired : withPairs(left)) {
                compareAll(paired, ofTwo, 2);
            }
        }
        // With three variables a list can go through the one in the middle and end at a loose one.
        List<PlainClaim> ofThree = claims(0, 1, 2, NIL);
        for (PlainClaim left : ofThree) {
            compareAll(left, ofThree, 3);
            compareAll(allDifferent(left), ofThree, 3);
        }
        Checks.end("SmallClaimsTest");
    }

    private static void compareAll(PlainClaim left, List<PlainClaim> rights, int variables) {
        List<PlainClaim.State> models = PlainStates.of(left, variables, 1);
        HeapClaims x = new HeapClaims();
        left.tell(x, 0);
        Checks.due(left + " possible(0)", x.possible(0), !models.isEmpty());
        for (PlainClaim right : rights) {
            HeapClaims y = new HeapClaims();
            left.tell(y, 0);
            right.tell(y, 1);
            int frame = Truths.frame(left, right, models);
            boolean asDue = y.implies() == (frame == 0) && y.frame() == frame;
            // To tell of all claims takes far longer than to try them.
            Checks.due(asDue ? "" : left + " / " + right + ", frame " + frame, asDue, true);
        }
    }

    /** All claims without pairs and with up to two pieces of these terms, in one order. */
    private static List<PlainClaim> claims(int... terms) {
        List<PlainClaim.Piece> pieces = new ArrayList<>();
        for (int x : terms) {
            for (int y : terms) {
                pieces.add(new PlainClaim.Piece(x, y, false));
                pieces.add(new PlainClaim.Piece(x, y, true));
            }
        }
        List<PlainClaim> claims = new ArrayList<>();
        claims.add(new PlainClaim());
        for (int i = 0; i < pieces.size(); i++) {
            claims.add(new PlainClaim().with(List.of(pieces.get(i))));
            for (int j = i; j < pieces.size(); j++) {
                claims.add(new PlainClaim().with(List.of(pieces.get(i), pieces.get(j))));
            }
        }
        return claims;
    }

    /** The claim with no pair, SAME or OTHER for each two of 0, 1 and NIL. */
    private static List<PlainClaim> withPairs(PlainClaim claim) {
        List<PlainClaim> all = List.of(claim);
        for (int[] terms : new int[][] {{0, 1}, {0, NIL}, {1, NIL}}) {
            List<PlainClaim> more = new ArrayList<>(all);
            for (PlainClaim c : all) {
                more.add(c.and(new PlainClaim.Pair(terms[0], terms[1], false)));
                more.add(c.and(new PlainClaim.Pair(terms[0], terms[1], true)));
            }
            all = more;
        }
        return all;
    }

    private static PlainClaim allDifferent(PlainClaim claim) {
        PlainClaim paired = claim;
        for (int[] terms : new int[][] {{0, 1}, {0, 2}, {1, 2}, {0, NIL}, {1, NIL}, {2, NIL}}) {
            paired = paired.and(new PlainClaim.Pair(terms[0], terms[1], true));
        }
        return paired;
    }
}
