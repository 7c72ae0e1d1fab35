/** Promises 1 to 10, what is done and answered: each sentence by itself. RefusalsTest has the rest. */
public final class ClaimsTest extends Samples {
    public static void main(String[] args) {
        Checks.each(
                ClaimsTest::newObject,
                ClaimsTest::pair,
                ClaimsTest::pairItHasAlready,
                ClaimsTest::piece,
                ClaimsTest::place,
                ClaimsTest::clear,
                ClaimsTest::swap,
                ClaimsTest::pieces,
                ClaimsTest::possible,
                ClaimsTest::implies,
                ClaimsTest::sureWhenEqual,
                ClaimsTest::sureWhenNot,
                ClaimsTest::sureOfCell,
                ClaimsTest::sureInAllStates,
                ClaimsTest::sureWithAnyTerm,
                ClaimsTest::frame,
                ClaimsTest::leastFrame,
                ClaimsTest::frameBits,
                ClaimsTest::frameBeyondFive,
                ClaimsTest::noFrame,
                ClaimsTest::questionsChangeNothing);
        Checks.end("ClaimsTest");
    }

    private static void newObject() {
        Checks.sentence("Promise 1", "makes an object in the state that the terms give");
        HeapClaims x = new HeapClaims();
        String before = Look.at(x);
        HeapClaims busy = busy();
        HeapClaims full = full();
        Checks.due("what shows, after others were made", Look.at(x), before);
        Checks.due("what a new one shows", Look.at(new HeapClaims()), before);
        Checks.due("what a busy one shows", Look.at(busy), Look.at(busy()));
        Checks.due("what a full one shows", Look.at(full), Look.at(full()));
        busy.clear(0);
        busy.give(0, 9);
        busy.put(9, 9);
        Checks.due("a full one, after a busy one changed", Look.at(full), Look.at(full()));
    }

    private static void pair() {
        Checks.sentence("Promise 2", "Adds a SAME pair (an OTHER pair, when other) to a claim");
        HeapClaims x = new HeapClaims();
        x.pair(0, 0, 1, SAME);
        x.pair(0, 2, 1, SAME);
        Checks.due("sure(0, 0, 2)", x.sure(0, 0, 2), true);
        Checks.due("sure(0, 0, 3)", x.sure(0, 0, 3), false);
        x.pair(0, 3, 2, OTHER);
        Checks.due("sure(1, 0, 3)", x.sure(1, 0, 3), true);
        Checks.due("implies, right without pairs", x.implies(), true);
        x.pair(1, 0, 3, OTHER);
        Checks.due("implies, OTHER by way of SAME", x.implies(), true);
        x.pair(1, 1, 0, SAME);
        Checks.due("implies, SAME the other way round", x.implies(), true);
        x.pair(1, 3, NIL, OTHER);
        Checks.due("implies, OTHER that is not sure", x.implies(), false);
        HeapClaims y = new HeapClaims();
        y.pair(1, 0, 0, OTHER);
        Checks.due("possible(0), right has the pair", y.possible(0), true);
        Checks.due("possible(1), a term other than itself", y.possible(1), false);
        HeapClaims z = new HeapClaims();
        z.pair(1, 3, 4, SAME);
        z.pair(1, 4, 3, OTHER);
        Checks.due("possible(1), SAME and OTHER", z.possible(1), false);
        Checks.due("pieces(1), pairs are no pieces", z.pieces(1), 0);
        pairsOfOneTerm();
    }

    private static void pairsOfOneTerm() {
        HeapClaims same = new HeapClaims();
        HeapClaims other = new HeapClaims();
        for (int b = 1; b <= 5; b++) {
            same.pair(0, 0, b, SAME);
            other.pair(0, 0, b, OTHER);
        }
        for (int b = 1; b <= 5; b++) {
            Checks.due("sure(0, " + b + ", 0)", same.sure(0, b, 0), true);
            Checks.due("sure(1, " + b + ", 0)", other.sure(1, b, 0), true);
        }
    }

    private static void pairItHasAlready() {
        Checks.sentence("Promise 2", "it may have it already");
        HeapClaims x = busy();
        x.pair(0, 3, NIL, SAME);
        x.pair(0, 4, 3, OTHER);
        String before = Look.at(x);
        x.pair(0, 3, NIL, SAME);
        x.pair(0, 4, 3, OTHER);
        Checks.due("what shows, each pair twice", Look.at(x), before);
        for (int i = 0; i < 21; i++) {
            x.pair(0, 3, NIL, SAME);
            x.pair(0, NIL, 3, SAME);
            x.pair(0, 4, 3, OTHER);
            x.pair(0, 3, 4, OTHER);
            x.pair(0, i % 6, i % 6, SAME);
        }
        Checks.due("what shows, each pair many times", Look.at(x), before);
        x.clear(0);
        Checks.due("sure(0, 3, 5) after one clear", x.sure(0, 3, NIL), false);
        Checks.due("sure(1, 3, 4) after one clear", x.sure(1, 3, 4), false);
    }

    private static void piece() {
        Checks.sentence("Promise 3", "Adds a piece, CELL x y, or LIST x y when list");
        HeapClaims cell = new HeapClaims();
        cell.piece(0, 0, 1, CELL);
        Checks.due("sure(2, 0, 0), CELL 0 1", cell.sure(2, 0, 0), true);
        Checks.due("sure(2, 1, 1), CELL 0 1", cell.sure(2, 1, 1), false);
        HeapClaims list = new HeapClaims();
        list.piece(0, 0, 1, LIST);
        Checks.due("sure(2, 0, 0), LIST 0 1", list.sure(2, 0, 0), false);
        list.pair(0, 0, 1, OTHER);
        Checks.due("sure(2, 0, 0), LIST 0 1, OTHER 0 1", list.sure(2, 0, 0), true);
        Checks.due("sure(2, 1, 1), LIST 0 1, OTHER 0 1", list.sure(2, 1, 1), false);
        HeapClaims right = new HeapClaims();
        right.piece(1, 0, 1, CELL);
        Checks.due("sure(2, 0, 0), a piece of right", right.sure(2, 0, 0), false);
        Checks.due("implies, a piece of right", right.implies(), false);
        Checks.due("a piece that it has already", right.piece(1, 0, 1, CELL), 1);
        Checks.due("possible(1), twice the same CELL", right.possible(1), false);
    }

    private static void place() {
        Checks.sentence("Promise 3", "answers its place (0, 1, ..)");
        HeapClaims x = new HeapClaims();
        for (int place = 0; place < 5; place++) {
            Checks.due("piece(1, ..)", x.piece(1, place, 5 - place, place % 2 == 0), place);
        }
        for (int place = 0; place < 5; place++) {
            Checks.due("piece(0, ..)", x.piece(0, 5 - place, place, place % 2 == 0), place);
        }
        x.clear(0);
        Checks.due("piece(0, ..) after clear(0)", x.piece(0, NIL, NIL, LIST), 0);
        x.swap();
        x.clear(0);
        Checks.due("piece(1, ..) after swap", x.piece(1, NIL, NIL, LIST), 1);
        Checks.due("piece(0, ..) after clear(0)", x.piece(0, NIL, NIL, LIST), 0);
    }

    private static void clear() {
        Checks.sentence("Promise 4", "The claim loses all pairs and pieces");
        HeapClaims x = busy();
        x.clear(0);
        Checks.due("pieces(0)", x.pieces(0), 0);
        Checks.due("sure(1, 0, 1), no OTHER pair", x.sure(1, 0, 1), false);
        Checks.due("sure(2, 0, 0), no piece", x.sure(2, 0, 0), false);
        Checks.due("pieces(1)", x.pieces(1), 1);
        x.swap();
        Checks.due("sure(0, 2, 3), the other claim's pair", x.sure(0, 2, 3), true);
        x.clear(0);
        Checks.due("sure(0, 2, 3), no SAME pair", x.sure(0, 2, 3), false);
        Checks.due("count", x.count(), 2);
        Checks.due("value(2)", x.value(2), 7);
        HeapClaims empty = new HeapClaims();
        empty.clear(0);
        empty.clear(1);
        empty.clear(1);
        Checks.due("an empty claim", Look.at(empty), Look.at(new HeapClaims()));
        HeapClaims full = full();
        full.clear(1);
        Checks.due("a full claim, pieces(1)", full.pieces(1), 0);
        Checks.due("the other full claim, pieces(0)", full.pieces(0), 5);
        Checks.due("the other full claim holds", full.holds(0), true);
        Checks.due("frame, all of left", full.frame(), 31);
        HeapClaims bad = new HeapClaims();
        for (int term = 0; term <= 5; term++) {
            bad.pair(1, term, term, OTHER);
        }
        bad.clear(1);
        Checks.due("possible(1) again", bad.possible(1), true);
        bad.piece(1, 0, 1, LIST);
        Checks.due("only the new piece", bad.holds(1), true);
    }

    private static void swap() {
        Checks.sentence("Promise 5", "Left and right change places");
        HeapClaims x = busy();
        x.pair(0, 4, 4, OTHER);
        x.swap();
        Checks.due("pieces(0)", x.pieces(0), 1);
        Checks.due("pieces(1)", x.pieces(1), 2);
        Checks.due("possible(0)", x.possible(0), true);
        Checks.due("possible(1)", x.possible(1), false);
        Checks.due("sure(0, 2, 3)", x.sure(0, 2, 3), true);
        Checks.due("sure(1, 0, 1)", x.sure(1, 0, 1), false);
        x.clear(1);
        Checks.due("pieces(0), after clear(1)", x.pieces(0), 1);
        x.swap();
        Checks.due("pieces(0), back", x.pieces(0), 0);
        Checks.due("pieces(1), back", x.pieces(1), 1);
        Checks.due("value(2)", x.value(2), 7);
        Checks.due("count", x.count(), 2);
        HeapClaims empty = new HeapClaims();
        empty.swap();
        Checks.due("both empty", Look.at(empty), Look.at(new HeapClaims()));
        HeapClaims one = left(list(0, 1), list(1, 2), list(2, 3), list(3, 4), list(4, NIL));
        one.swap();
        Checks.due("full and empty: pieces(0)", one.pieces(0), 0);
        Checks.due("full and empty: pieces(1)", one.pieces(1), 5);
        Checks.due("room in left", one.piece(0, 0, NIL, LIST), 0);
        Checks.due("implies", one.implies(), false);
        one.swap();
        Checks.due("implies, the other way", one.implies(), true);
    }

    private static void pieces() {
        Checks.sentence("Promise 6", "How many pieces a claim has");
        for (int claim = 0; claim <= 1; claim++) {
            HeapClaims x = new HeapClaims();
            x.pair(claim, 0, 1, OTHER);
            for (int n = 0; n <= 4; n++) {
                Checks.due("pieces", x.pieces(claim), n);
                Checks.due("pieces of the other", x.pieces(1 - claim), 0);
                x.piece(claim, 1, 1, LIST);
            }
            Checks.due("pieces, all alike", x.pieces(claim), 5);
            x.pair(claim, 1, 1, OTHER);
            Checks.due("pieces of what is not possible", x.pieces(claim), 5);
        }
    }

    private static void possible() {
        Checks.sentence("Promise 7", "Whether a claim is true of some state");
        Checks.due("no pairs and pieces", new HeapClaims().possible(1), true);
        HeapClaims far = left(cell(0, NIL));
        far.give(0, 0);
        Checks.due("of another state than the one at hand", far.possible(0), true);
        Checks.due("not of the one at hand", far.holds(0), false);
        HeapClaims y = left(list(0, 1), list(0, 2));
        Checks.due("lists that start alike", y.possible(0), true);
        y.pair(0, 0, 1, OTHER);
        Checks.due("one of them empty", y.possible(0), true);
        y.pair(0, 0, 2, OTHER);
        Checks.due("none of them empty", y.possible(0), false);
        Checks.due("the other claim", y.possible(1), true);
        HeapClaims ring = left(list(0, 1), list(1, 2), list(2, 3), list(3, 4), list(4, 0));
        ring.pair(0, 0, 1, OTHER);
        Checks.due("a ring of lists", ring.possible(0), true);
        ring.pair(0, 3, NIL, SAME);
        Checks.due("a ring through NIL", ring.possible(0), false);
        HeapClaims apart = new HeapClaims();
        for (int a = 0; a <= 5; a++) {
            for (int b = 0; b < a; b++) {
                apart.pair(0, a, b, OTHER);
            }
        }
        Checks.due("all six terms different", apart.possible(0), true);
        apart.pair(0, 0, 4, SAME);
        Checks.due("all different and two equal", apart.possible(0), false);
    }

    private static void implies() {
        Checks.sentence("Promise 8", "Whether left implies right");
        Checks.due("both without anything", new HeapClaims().implies(), true);
        Checks.due("a claim itself", both(1, cell(0, 0), cell(0, 0)).implies(), true);
        Checks.due("no cells, LIST 0 1", right(list(0, 1)).implies(), false);
        Checks.due("a cell, nothing", left(cell(0, 1)).implies(), false);
        Checks.due("LIST 0 0, nothing", left(list(0, 0)).implies(), true);
        Checks.due("LIST 0 1, nothing", left(list(0, 1)).implies(), false);
        HeapClaims order = both(2, cell(0, 1), cell(2, 3), cell(2, 3), cell(0, 1));
        Checks.due("in another order", order.implies(), true);
        HeapClaims pairs = both(2, cell(0, 1), list(1, 2), cell(0, 1), list(1, 2));
        Checks.due("without right's pair", pairs.implies(), true);
        pairs.pair(1, 0, 2, OTHER);
        Checks.due("right's pair is not sure", pairs.implies(), false);
        HeapClaims cells = both(2, cell(0, 1), cell(1, 2));
        cells.pair(1, 0, 1, OTHER);
        cells.piece(1, 1, 2, CELL);
        cells.piece(1, 0, 1, CELL);
        Checks.due("cells are apart", cells.implies(), true);
        HeapClaims five = both(5, list(0, 1), list(1, 2), list(2, 3), list(3, 4), list(4, NIL),
                list(0, NIL));
        Checks.due("five lists, one", five.implies(), true);
        five.swap();
        Checks.due("one list, five", five.implies(), false);
    }

    private static void sureWhenEqual() {
        Checks.sentence("Promise 9", "the values of a and b are equal (what = 0)");
        HeapClaims x = both(2, list(0, 1), cell(1, 2));
        Checks.due("a term itself", x.sure(0, 3, 3), true);
        Checks.due("NIL itself", x.sure(0, NIL, NIL), true);
        Checks.due("LIST 0 1, 0 and 1", x.sure(0, 0, 1), false);
        Checks.due("variables without a word", x.sure(0, 3, 4), false);
        HeapClaims y = left(list(NIL, 2), cell(0, 1), list(0, 3));
        Checks.due("LIST NIL 2, 2 and NIL", y.sure(0, 2, NIL), true);
        Checks.due("LIST NIL 2, NIL and 2", y.sure(0, NIL, 2), true);
        Checks.due("CELL 0 1, LIST 0 3, 0 and 3", y.sure(0, 0, 3), true);
        Checks.due("CELL 0 1, 0 and 1", y.sure(0, 0, 1), false);
    }

    private static void sureWhenNot() {
        Checks.sentence("Promise 9", "are not (1)");
        HeapClaims x = both(2, list(0, 1), cell(1, 2));
        Checks.due("a term itself", x.sure(1, 3, 3), false);
        Checks.due("LIST 0 1, 0 and 1", x.sure(1, 0, 1), false);
        Checks.due("CELL 1 2, 1 and NIL", x.sure(1, 1, NIL), true);
        Checks.due("CELL 1 2, NIL and 1", x.sure(1, NIL, 1), true);
        Checks.due("CELL 1 2, 1 and 2", x.sure(1, 1, 2), false);
        Checks.due("variables without a word", x.sure(1, 3, 4), false);
        HeapClaims y = left(cell(0, 1), cell(2, 1));
        Checks.due("CELL 0 1, CELL 2 1, 0 and 2", y.sure(1, 0, 2), true);
        HeapClaims z = left(list(0, 1), list(0, 2));
        z.pair(0, 1, 2, OTHER);
        Checks.due("one of two lists has cells, 0 and NIL", z.sure(1, NIL, 0), true);
    }

    private static void sureOfCell() {
        Checks.sentence("Promise 9", "there is a cell at the value of a (2");
        HeapClaims x = both(2, list(0, 1), cell(1, 2));
        Checks.due("CELL 1 2, at 1", x.sure(2, 1, 1), true);
        Checks.due("LIST 0 1 without cells or with them, at 0", x.sure(2, 0, 0), true);
        Checks.due("CELL 1 2, at 2", x.sure(2, 2, 2), false);
        Checks.due("at NIL", x.sure(2, NIL, NIL), false);
        Checks.due("at a variable without a word", x.sure(2, 3, 3), false);
        HeapClaims y = left(list(0, 1), list(0, 2));
        Checks.due("both lists may be empty", y.sure(2, 0, 0), false);
        y.pair(0, 1, 2, OTHER);
        Checks.due("one of two lists has cells", y.sure(2, 0, 0), true);
        HeapClaims same = left(cell(0, NIL));
        Checks.due("CELL 0 NIL, at 1", same.sure(2, 1, 0), false);
        same.pair(0, 0, 1, SAME);
        Checks.due("CELL 0 NIL, SAME 0 1, at 1", same.sure(2, 1, 0), true);
        same.give(2, 1);
        same.put(1, 1);
        Checks.due("a cell of the state at hand, at 2", same.sure(2, 2, 0), false);
    }

    private static void sureInAllStates() {
        Checks.sentence("Promise 9", "in all states of which left is true");
        HeapClaims x = left(cell(0, 1), cell(0, 2));
        for (int what = 0; what <= 2; what++) {
            for (int a = 0; a <= 5; a++) {
                Checks.due("by what is not possible", x.sure(what, a, (a + 1) % 6), true);
                Checks.due("by what is not possible", x.sure(what, a, a), true);
            }
        }
        x.swap();
        for (int what = 0; what <= 2; what++) {
            Checks.due("right is of no matter", x.sure(what, 0, 1), false);
        }
    }

    private static void sureWithAnyTerm() {
        Checks.sentence("Promise 9", "b is of no matter, but a term");
        HeapClaims x = cellAndList();
        for (int b = 0; b <= 5; b++) {
            for (int a = 0; a <= 5; a++) {
                Checks.due("sure(2, " + a + ", " + b + ")", x.sure(2, a, b), a == 0 || a == 2);
            }
        }
        for (int no : NO_TERMS) {
            Checks.dueThrow("sure(2, 0, " + no + ")", ClaimsTest::cellAndList, INDEX,
                    y -> y.sure(2, 0, no));
        }
    }

    private static HeapClaims cellAndList() {
        HeapClaims x = left(cell(0, 1), list(2, 3));
        x.pair(0, 2, 3, OTHER);
        return x;
    }

    private static void frame() {
        Checks.sentence("Promise 10",
                "left implies what right becomes when it also has the pieces of left at the bits of f");
        HeapClaims x = both(3, cell(0, 1), cell(1, 2), cell(2, 3), cell(1, 2));
        Checks.due("cells at both sides", x.frame(), 5);
        x.piece(1, 0, 1, CELL);
        Checks.due("one cell", x.frame(), 4);
        x.piece(1, 2, 3, CELL);
        Checks.due("no cell", x.frame(), 0);
        HeapClaims pairs = both(2, list(0, NIL), list(1, NIL), list(0, NIL));
        pairs.pair(0, 0, NIL, OTHER);
        Checks.due("without right's pair", pairs.frame(), 2);
        pairs.pair(1, 0, 1, OTHER);
        Checks.due("right's pair is sure", pairs.frame(), 2);
        HeapClaims w = both(2, list(0, 1), list(0, 2), list(0, 1));
        w.pair(0, 1, 2, OTHER);
        Checks.due("the other list, if it has cells", w.frame(), 2);
        HeapClaims join = both(5, cell(0, 0), cell(1, 1), list(2, 3), list(3, 4), list(4, NIL),
                list(2, NIL));
        Checks.due("three lists become one", join.frame(), 3);
    }

    private static void leastFrame() {
        Checks.sentence("Promise 10", "The least number f");
        Checks.due("both without anything", new HeapClaims().frame(), 0);
        Checks.due("an empty list is not needed",
                both(2, list(3, 3), list(0, NIL), list(0, NIL)).frame(), 0);
        Checks.due("nor is any of five", left(list(0, 0), list(1, 1), list(2, 2), list(3, 3),
                list(NIL, NIL)).frame(), 0);
        HeapClaims alike = both(2, list(0, 1), list(0, 1), list(0, 1));
        Checks.due("two alike are both empty", alike.frame(), 0);
        HeapClaims same = left(list(0, 1), cell(2, 3));
        Checks.due("one that may have cells is needed", same.frame(), 3);
        same.pair(0, 0, 1, SAME);
        Checks.due("one that has none is not", same.frame(), 2);
        HeapClaims bad = both(1, cell(0, 1), cell(2, 2));
        bad.pair(0, 0, NIL, SAME);
        Checks.due("left is true of no state", bad.frame(), 0);
        HeapClaims right = both(1, cell(0, 1), cell(2, 2));
        right.pair(0, 4, 4, OTHER);
        right.pair(1, 4, 4, OTHER);
        Checks.due("neither is", right.frame(), 0);
    }

    private static void frameBits() {
        Checks.sentence("Promise 10", "bits being places of left's pieces");
        for (int place = 0; place < 5; place++) {
            HeapClaims x = new HeapClaims();
            for (int p = 0; p < 5; p++) {
                x.piece(0, p, NIL, p % 2 == 0 ? CELL : LIST);
                if (p != place) {
                    x.piece(1, p, NIL, LIST);
                }
            }
            Checks.due("all but place " + place, x.frame(), 1 << place);
        }
        HeapClaims all = left(cell(0, 0), cell(1, 1), list(2, 3), list(3, 4), list(4, NIL));
        Checks.due("all five", all.frame(), 31);
    }

    private static void frameBeyondFive() {
        Checks.sentence("Promise 10", "this may be more than 5 pieces");
        HeapClaims ten = both(5,
                list(0, NIL), list(1, NIL), list(2, NIL), list(3, NIL), list(4, NIL),
                list(NIL, NIL), list(0, 0), list(1, 1), list(2, 2), list(3, 3));
        Checks.due("ten pieces", ten.frame(), 31);
        Checks.due("pieces(1) stays", ten.pieces(1), 5);
        HeapClaims six = both(2, cell(0, 1), cell(1, 2),
                cell(0, 1), list(0, 0), list(1, 1), list(2, 2), list(3, 3));
        Checks.due("six pieces", six.frame(), 2);
        HeapClaims nine = both(5, cell(0, 1), cell(1, 2), cell(2, 3), cell(3, 4), cell(4, NIL),
                cell(4, NIL), list(3, 3), list(NIL, NIL), list(1, 1), list(2, 2));
        Checks.due("nine pieces", nine.frame(), 15);
    }

    private static void noFrame() {
        Checks.sentence("Promise 10", "NONE when there is none such");
        Checks.due("NONE", HeapClaims.NONE, -1);
        Checks.due("right has too much", both(1, cell(0, 1), cell(2, 3)).frame(), NONE);
        Checks.due("left has nothing", right(cell(0, 0)).frame(), NONE);
        HeapClaims pairs = new HeapClaims();
        pairs.pair(1, 0, 1, SAME);
        Checks.due("right's pair is not sure", pairs.frame(), NONE);
        HeapClaims ring = both(1, cell(0, 1), list(0, 1));
        Checks.due("left over in a ring alone", ring.frame(), NONE);
        ring.pair(0, 0, 1, OTHER);
        Checks.due("no ring", ring.frame(), 0);
        HeapClaims lists = both(2, list(0, NIL), list(1, NIL), list(0, NIL));
        lists.pair(1, 0, 1, OTHER);
        Checks.due("both may be NIL", lists.frame(), NONE);
        HeapClaims part = both(2, list(0, 1), list(1, 2), list(0, 2));
        part.pair(0, 0, 2, OTHER);
        Checks.due("the end may lie inside", part.frame(), NONE);
        Checks.due("the first cell of a list", both(1, list(0, NIL), cell(0, 1)).frame(), NONE);
        HeapClaims bad = new HeapClaims();
        bad.pair(1, 2, 2, OTHER);
        Checks.due("right is true of no state", bad.frame(), NONE);
    }

    private static void questionsChangeNothing() {
        Checks.sentence("Not promised",
                "Nothing is promised beyond the answers and state changes described above");
        HeapClaims x = full();
        HeapClaims y = busy();
        for (int i = 0; i < 2; i++) {
            Checks.due("asked again, full", Look.at(x), Look.at(full()));
            Checks.due("asked again, busy", Look.at(y), Look.at(busy()));
        }
        Checks.due("after possible(1), frame", y.possible(1) ? y.frame() : 0, busy().frame());
        Checks.due("after sure, holds", y.sure(0, 3, 4) || y.holds(0), busy().holds(0));
        Checks.due("after frame, possible", y.frame() == 0 || y.possible(0), busy().possible(0));
    }
}
