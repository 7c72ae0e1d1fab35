import java.util.ArrayList;
import java.util.Collections;
import java.util.List;

/** What each call is due to answer, as the document's words tell it; slow, and plain. */
final class PlainObject {
    /** A call of the face: its name and arguments, true being 1 and false 0. */
    record Call(String name, int... args) {
        @Override
        public String toString() {
            StringBuilder text = new StringBuilder(name).append('(');
            for (int i = 0; i < args.length; i++) {
                text.append(i == 0 ? "" : ", ").append(args[i]);
            }
            return text.append(')').toString();
        }
    }

    private static final class Refused extends RuntimeException {
        private static final long serialVersionUID = 1;

        Refused(Class<?> due) {
            super(due.getSimpleName());
        }
    }

    private final List<PlainClaim> claims = new ArrayList<>(List.of(new PlainClaim(), new PlainClaim()));
    private final int[] values = new int[6];
    private final int[] nexts = {-1, -1, -1, -1, -1, -1, -1, -1, -1, -1};

    /** The states of left are dear to find, and many questions in a row ask for the same. */
    private PlainClaim lastLeft = null;
    private List<PlainClaim.State> lastModels = null;

    String answer(Call call) {
        try {
            return String.valueOf(plainly(call.name(), call.args()));
        } catch (Refused e) {
            return "throws " + e.getMessage();
        }
    }

    private Object plainly(String name, int[] args) {
        return switch (name) {
            case "pair" -> pair(args[0], args[1], args[2], args[3] == 1);
            case "piece" -> piece(args[0], args[1], args[2], args[3] == 1);
            case "clear" -> clear(args[0]);
            case "swap" -> swap();
            case "pieces" -> claim(args[0]).pieces.size();
            case "possible" -> !PlainStates.of(claim(args[0]), 1).isEmpty();
            case "implies" -> Truths.follows(claims.get(1), models());
            case "sure" -> sure(args[0], args[1], args[2]);
            case "frame" -> Truths.frame(claims.get(0), claims.get(1), models());
            case "holds" -> claim(args[0]).isTrueOf(new PlainClaim.State(values, nexts));
            case "value" -> values[term(args[0])];
            case "next" -> args[0] >= 1 && args[0] <= 9 ? nexts[args[0]] : -1;
            case "count" -> cells();
            default -> step(name, args);
        };
    }

    private Object step(String name, int[] args) {
        return switch (name) {
            case "give" -> give(args[0], args[1]);
            case "put" -> put(args[0], args[1]);
            case "copy" -> copy(args[0], args[1]);
            case "load" -> load(args[0], args[1]);
            case "store" -> store(args[0], args[1]);
            case "make" -> make(args[0]);
            case "drop" -> drop(args[0]);
            default -> throw new AssertionError(name);
        };
    }

    private static void refuseWhen(boolean fits, Class<?> due) {
        if (fits) {
            throw new Refused(due);
        }
    }

    private PlainClaim claim(int claim) {
        refuseWhen(claim != 0 && claim != 1, IndexOutOfBoundsException.class);
        return claims.get(claim);
    }

    private static int term(int term) {
        refuseWhen(term < 0 || term > 5, IndexOutOfBoundsException.class);
        return term;
    }

    private static int variable(int variable) {
        refuseWhen(variable < 0 || variable > 4, IndexOutOfBoundsException.class);
        return variable;
    }

    private int cellAt(int address) {
        refuseWhen(nexts[address] < 0, IllegalStateException.class);
        return address;
    }

    private List<PlainClaim.State> models() {
        if (lastLeft != claims.get(0)) {
            lastLeft = claims.get(0);
            lastModels = PlainStates.of(lastLeft, 1);
        }
        return lastModels;
    }

    private Object pair(int claim, int a, int b, boolean other) {
        claims.set(claim, claim(claim).and(new PlainClaim.Pair(term(a), term(b), other)));
        return "";
    }

    private Object piece(int claim, int x, int y, boolean list) {
        PlainClaim changed = claim(claim).with(List.of(new PlainClaim.Piece(term(x), term(y), list)));
        refuseWhen(changed.pieces.size() > 5, IllegalStateException.class);
        claims.set(claim, changed);
        return changed.pieces.size() - 1;
    }

    private Object clear(int claim) {
        claim(claim);
        claims.set(claim, new PlainClaim());
        return "";
    }

    private Object swap() {
        Collections.swap(claims, 0, 1);
        return "";
    }

    private Object sure(int what, int a, int b) {
        term(a);
        term(b);
        refuseWhen(what < 0 || what > 2, IllegalArgumentException.class);
        return Truths.sure(what, a, b, models());
    }

    private int cells() {
        int cells = 0;
        for (int next : nexts) {
            cells += next >= 0 ? 1 : 0;
        }
        return cells;
    }

    private Object give(int variable, int v) {
        variable(variable);
        refuseWhen(v < 0 || v > 9, IllegalArgumentException.class);
        values[variable] = v;
        return "";
    }

    private Object put(int address, int next) {
        refuseWhen(address < 1 || address > 9, IllegalArgumentException.class);
        refuseWhen(next < 0 || next > 9, IllegalArgumentException.class);
        nexts[address] = next;
        return "";
    }

    private Object copy(int x, int y) {
        variable(x);
        values[x] = values[term(y)];
        return "";
    }

    private Object load(int x, int y) {
        variable(x);
        variable(y);
        values[x] = nexts[cellAt(values[y])];
        return "";
    }

    private Object store(int x, int y) {
        variable(x);
        term(y);
        nexts[cellAt(values[x])] = values[y];
        return "";
    }

    private Object make(int x) {
        variable(x);
        refuseWhen(cells() == 9, UnsupportedOperationException.class);
        int least = 1;
        while (nexts[least] >= 0) {
            least++;
        }
        values[x] = least;
        nexts[least] = 0;
        return "";
    }

    private Object drop(int x) {
        variable(x);
        nexts[cellAt(values[x])] = -1;
        return "";
    }
}
