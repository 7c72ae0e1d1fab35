import java.util.ArrayList;
import java.util.List;

/** Promises 7 to 10 and 13 against the document's own definition, over many states. */
public final class AllStatesTest {
    private static int implied = 0;
    private static int framed = 0;
    private static int asked = 0;

    public static void main(String[] args) {
        int times = args.length > 0 ? Integer.parseInt(args[0]) : 1;
        for (int i = 0; i < times; i++) {
            smallStates(100 + i, 2, 4, 2, 300);
            smallStates(200 + i, 3, 4, 2, 150);
            grownStates(300 + i, 3, 4, 600);
            grownStates(400 + i, 4, 4, 300);
            grownStates(500 + i, 5, 5, 300);
            statesAtHand(600 + i, 3000);
        }
        System.out.println(asked + " claims, " + implied + " implied, " + framed + " framed");
        Checks.due("some claims are implied", implied * 8 > asked, true);
        Checks.due("some claims have a frame that is not 0", framed * 20 > asked, true);
        Checks.end("AllStatesTest");
    }

    private static void smallStates(long seed, int variables, int greatest, int most, int times) {
        List<PlainClaim.State> all = PlainStates.all(variables, greatest);
        RandomClaims random = new RandomClaims(seed, variables);
        for (int i = 0; i < times; i++) {
            PlainClaim left = random.left(3, most);
            List<PlainClaim.State> models = new ArrayList<>();
            for (PlainClaim.State s : all) {
                if (left.isTrueOf(s)) {
                    models.add(s);
                }
            }
            compare(left, random.right(left), models, variables);
        }
    }

    private static void grownStates(long seed, int variables, int most, int times) {
        RandomClaims random = new RandomClaims(seed, variables);
        for (int i = 0; i < times; i++) {
            PlainClaim left = random.left(6, most);
            compare(left, random.right(left), PlainStates.of(left, 1), 5);
        }
    }

    private static void compare(
            PlainClaim left, PlainClaim right, List<PlainClaim.State> models, int variables) {
        HeapClaims x = new HeapClaims();
        left.tell(x, 0);
        right.tell(x, 1);
        String who = left + " / " + right + ": ";
        boolean implies = Truths.follows(right, models);
        int frame = Truths.frame(left, right, models);
        asked++;
        implied += implies && !models.isEmpty() ? 1 : 0;
        framed += frame > 0 ? 1 : 0;
        Checks.due(who + "possible(0)", x.possible(0), !models.isEmpty());
        Checks.due(who + "implies()", x.implies(), implies);
        Checks.due(who + "frame()", x.frame(), frame);
        for (int what = 0; what <= 2; what++) {
            for (int a = 0; a <= 5; a++) {
                for (int b = 0; b <= 5; b++) {
                    boolean looked = (a < variables || a == 5) && (b < variables || b == 5);
                    if (looked) {
                        boolean want = Truths.sure(what, a, b, models);
                        Checks.due(who + "sure " + what + a + b, x.sure(what, a, b), want);
                    }
                }
            }
        }
    }

    /** Random states for random claims, and states made for the claim, so that many are true. */
    private static void statesAtHand(long seed, int times) {
        RandomClaims random = new RandomClaims(seed, 5);
        int held = 0;
        for (int i = 0; i < times; i++) {
            PlainClaim claim = random.left(1, 3);
            holdsAsDue(claim, random.state());
            int tried = 0;
            for (PlainClaim.State s : PlainStates.of(claim, 1)) {
                if (tried < 5 && fits(s)) {
                    tried++;
                    held++;
                    holdsAsDue(claim, s);
                    holdsAsDue(random.right(claim), s);
                }
            }
        }
        Checks.due("many claims hold", held > times, true);
    }

    private static boolean fits(PlainClaim.State s) {
        for (int address = 10; address < s.nexts().length; address++) {
            if (s.nexts()[address] >= 0 && address > 13) {
                return false;
            }
        }
        return true;
    }

    /** Addresses 10 .. 13 of a made state become 6 .. 9, which made states leave free. */
    private static void holdsAsDue(PlainClaim claim, PlainClaim.State s) {
        HeapClaims x = new HeapClaims();
        claim.tell(x, 1);
        for (int t = 0; t < 5; t++) {
            x.give(t, s.values()[t]);
        }
        for (int address = 1; address < s.nexts().length; address++) {
            if (s.nexts()[address] >= 0) {
                int next = s.nexts()[address];
                x.put(address < 10 ? address : address - 4, next < 10 ? next : next - 4);
            }
        }
        Checks.due(claim + " holds(1)", x.holds(1), claim.isTrueOf(s));
    }
}
