import java.util.ArrayList;
import java.util.List;

/** The document's questions about all states, answered by a look at each state. */
final class Truths {
    private Truths() {
    }

    static boolean follows(PlainClaim right, List<PlainClaim.State> models) {
        for (PlainClaim.State s : models) {
            if (!right.isTrueOf(s)) {
                return false;
            }
        }
        return true;
    }

    static int frame(PlainClaim left, PlainClaim right, List<PlainClaim.State> models) {
        for (int f = 0; f < 1 << left.pieces.size(); f++) {
            List<PlainClaim.Piece> more = new ArrayList<>();
            for (int place = 0; place < left.pieces.size(); place++) {
                if ((f & 1 << place) != 0) {
                    more.add(left.pieces.get(place));
                }
            }
            if (follows(right.with(more), models)) {
                return f;
            }
        }
        return -1;
    }

    static boolean sure(int what, int a, int b, List<PlainClaim.State> models) {
        for (PlainClaim.State s : models) {
            boolean equal = s.values()[a] == s.values()[b];
            int v = s.values()[a];
            boolean so = what == 0 ? equal : what == 1 ? !equal : v != 0 && s.nexts()[v] >= 0;
            if (!so) {
                return false;
            }
        }
        return true;
    }
}
