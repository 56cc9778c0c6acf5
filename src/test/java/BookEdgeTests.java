/**
 * A test for each sentence of the document that names a boundary case: the book of carriages,
 * witnesses and appeals (Term III, promises 10 to 20).
 */
public final class BookEdgeTests {
    private static final int NONE = CartFellows.NONE;
    private static final int LEAST = Integer.MIN_VALUE;
    private static final int MOST = Integer.MAX_VALUE;
    private static final int MOST_TOLD = 2000000000;

    private BookEdgeTests() {
    }

    public static void main(String[] args) {
        factsOfACarriage();
        itsCall();
        itsCart();
        itsKind();
        itsTurn();
        itsAct();
        most200();
        noWitness();
        noAppeal();
        noVoid();
        asAtAnAct();
        asAtNone();
        alwaysTheLast();
        upToAnAct();
        notVoidByThen();
        notKnownCarriage();
        appealOfNotKnown();
        fineToBePaid();
        noFine();
        finesOfACart();
        noFinesOfACart();
        toldAsMost();
        wholeSums();
        aboveThat();
        barredAsKnown();
        unlikeCarts();
        mostWitnesses();
        toldFirst();
        noQuarrel();
        Checks.close("BookEdgeTests");
    }

    private static void by(String words) {
        Checks.by(words);
    }

    private static void due(String what, long got, long want) {
        Checks.due(what, got, want);
    }

    /** Two KINDS, a FINE of the WAIT, one of 100 at its turn. */
    private static CartFellows book() {
        return Checks.with("kind a most 5;kind b most 5;fine f is wait for all;fine g is 100 for turn=1;");
    }

    /** A CARRIAGE of a CALL and a cart, with a WAIT. */
    private static int tell(CartFellows x, int call, int cart, int wait) {
        return x.told(call, cart, 0, 1, 0, 0, wait, false);
    }

    // ---- promise 10

    private static void factsOfACarriage() {
        by("III: WEIGHT (1 .. 9999), YARDS (0 .. 9999), MINUTE (0 .. 9999), WAIT (0 .. 9999)");
        String[] facts = {"weight", "yards", "minute", "wait"};
        int[] least = {1, 0, 0, 0};
        for (int i = 0; i < 4; i++) {
            CartFellows x = Checks.with("kind a most 5;rate " + facts[i] + " for all;");
            int[] can = {least[i], least[i] + 1, 9998, 9999};
            for (int fact : can) {
                int[] row = {1, 0, 0, 0};
                row[i] = fact;
                int act = x.told(0, 0, 0, row[0], row[1], row[2], row[3], false);
                due(facts[i] + " " + fact, x.rate(act), fact);
            }
            int[] wrong = {least[i] - 1, -1, 10000, LEAST, MOST};
            for (int fact : wrong) {
                int[] row = {1, 0, 0, 0};
                row[i] = fact;
                due(facts[i] + " " + fact, x.told(0, 0, 0, row[0], row[1], row[2], row[3], false), NONE);
            }
            due("nothing was done", x.all(4), 4);
        }
    }

    private static void itsCall() {
        by("10: of a CALL (0 .. 39)");
        CartFellows x = book();
        int[] wrong = {-1, 40, LEAST, MOST};
        for (int call : wrong) {
            due("call " + call, tell(x, call, 0, 0), NONE);
        }
        due("nothing was done", x.all(4), 0);
        due("0", tell(x, 0, 0, 0), 1);
        due("39", tell(x, 39, 0, 0), 2);
        tell(x, 39, 1, 0);
        due("it is of that call", x.right(39), 2);
        due("it is not of another", x.right(0), 0);
    }

    private static void itsCart() {
        by("10: a cart (0 .. 15)");
        CartFellows x = book();
        int[] wrong = {-1, 16, LEAST, MOST};
        for (int cart : wrong) {
            due("cart " + cart, tell(x, 0, cart, 0), NONE);
        }
        due("nothing was done", x.all(4), 0);
        due("0", tell(x, 0, 0, 3), 1);
        due("15", tell(x, 0, 15, 4), 2);
        due("fines of 0", x.fines(0), 3);
        due("fines of 15", x.fines(15), 4);
    }

    private static void itsKind() {
        by("10: NONE if something can't be (its KIND)");
        CartFellows x = book();
        int[] wrong = {-1, 2, 7, 8, LEAST, MOST};
        for (int kind : wrong) {
            due("kind " + kind, x.told(0, 0, kind, 1, 0, 0, 0, false), NONE);
        }
        due("nothing was done", x.all(4), 0);
        due("0", x.told(0, 0, 0, 1, 0, 0, 0, false), 1);
        due("1", x.told(0, 0, 1, 1, 0, 0, 0, false), 2);
        Checks.laws(x, "kind a most 5;");
        due("none such any more", x.told(0, 0, 1, 1, 0, 0, 0, false), NONE);
        Checks.laws(x, "");
        due("none at all", x.told(0, 0, 0, 1, 0, 0, 0, false), NONE);
        x = Checks.with("kind a most 5;kind b most 5;rate 3 for is b;");
        x.told(0, 0, 0, 1, 0, 0, 0, false);
        x.told(0, 0, 1, 1, 0, 0, 0, false);
        due("rate of a", x.rate(1), 0);
        due("rate of b", x.rate(2), 3);
    }

    private static void itsTurn() {
        by("III: TURN (1: it was the cart's turn, 0)");
        CartFellows x = book();
        x.told(0, 0, 0, 1, 0, 0, 0, true);
        x.told(0, 0, 0, 1, 0, 0, 0, false);
        due("its turn", x.fine(1, 1), 100);
        due("not its turn", x.fine(2, 1), 0);
    }

    private static void itsAct() {
        by("III: ACTS, numbered from 1 on");
        CartFellows x = book();
        due("a carriage", tell(x, 0, 0, 0), 1);
        due("a witness", x.witness(1, true), 2);
        due("an appeal", x.appeal(1, 0), 3);
        due("void", x.annul(2), 4);
        due("a carriage", tell(x, 0, 0, 0), 5);
        due("all", x.all(4), 5);
    }

    private static void most200() {
        by("III: ACTS (200 at most); 10 to 13: NONE if there are 200");
        for (int last = 0; last < 4; last++) {
            CartFellows x = book();
            for (int act = 1; act < 200; act++) {
                due("act " + act, tell(x, 0, act % 2, 1), act);
            }
            int the200th = last == 0 ? tell(x, 0, 0, 1) : last == 1 ? x.witness(199, true)
                : last == 2 ? x.appeal(199, 0) : x.annul(199);
            due("the 200th", the200th, 200);
            due("a 201st told", tell(x, 0, 0, 1), NONE);
            due("a 201st witness", x.witness(1, true), NONE);
            due("a 201st appeal", x.appeal(1, 0), NONE);
            due("a 201st void", x.annul(1), NONE);
            due("200 there are", x.all(4), 200);
            due("none is void", x.fine(1, 0), 1);
            due("none is appealed", x.fines(1), last < 2 ? 100 : 99);
            due("the first is right", x.right(0), last == 1 ? 199 : 1);
            if (last == 0) {
                due("a fine of the 200th", x.fine(200, 0), 1);
                due("no other fine of the 200th", x.fine(200, 1), 0);
                due("the rate of the 200th", x.rate(200), 0);
            }
            Checks.holds("as at the 200th", x.as(200));
            Checks.fails("as at a 201st", x.as(201));
        }
    }

    // ---- promises 11 to 13

    private static void noWitness() {
        by("11: A WITNESS for (or against) a CARRIAGE's ACT: likewise");
        CartFellows x = book();
        int[] wrong = {0, -1, 1, 200, 201, LEAST, MOST};
        for (int act : wrong) {
            due("without acts, of " + act, x.witness(act, true), NONE);
        }
        tell(x, 0, 0, 0);
        tell(x, 0, 1, 0);
        due("for", x.witness(2, true), 3);
        due("it counts for", x.right(0), 2);
        due("against", x.witness(2, false), 4);
        due("against", x.witness(2, false), 5);
        due("it counts against", x.right(0), 1);
        due("an appeal", x.appeal(1, 0), 6);
        due("void", x.annul(3), 7);
        int[] none = {0, -1, 3, 4, 6, 7, 8, 200, 201, LEAST, MOST};
        for (int act : none) {
            due("for " + act, x.witness(act, true), NONE);
            due("against " + act, x.witness(act, false), NONE);
        }
        due("nothing was done", x.all(4), 7);
    }

    private static void noAppeal() {
        by("12: An APPEAL of a FINE (its number) of a CARRIAGE's ACT: likewise");
        CartFellows x = book();
        due("without acts", x.appeal(1, 0), NONE);
        tell(x, 0, 0, 7);
        int[] wrong = {-1, 2, 3, 11, 12, 31, 32, LEAST, MOST};
        for (int fine : wrong) {
            due("of fine " + fine, x.appeal(1, fine), NONE);
        }
        due("nothing was done", x.fines(0), 7);
        due("of the last fine", x.appeal(1, 1), 2);
        due("it has another to pay", x.fines(0), 7);
        due("of the first fine", x.appeal(1, 0), 3);
        due("it is not to be paid", x.fines(0), 0);
        x.witness(1, true);
        x.annul(4);
        int[] none = {0, -1, 2, 3, 4, 5, 6, 200, 201, LEAST, MOST};
        for (int act : none) {
            due("of act " + act, x.appeal(act, 0), NONE);
        }
        due("nothing was done", x.all(4), 5);
        x = Checks.with("kind a most 5;");
        tell(x, 0, 0, 7);
        due("without fines", x.appeal(1, 0), NONE);
    }

    private static void noVoid() {
        by("13: the ACT that tells it; NONE if there is none such, it is VOID or tells so, or there are 200");
        CartFellows x = book();
        int[] wrong = {0, -1, 1, 200, 201, LEAST, MOST};
        for (int act : wrong) {
            due("without acts, " + act, x.annul(act), NONE);
        }
        tell(x, 0, 0, 7);
        x.witness(1, true);
        x.appeal(1, 0);
        tell(x, 0, 0, 7);
        due("a witness", x.annul(2), 5);
        due("an appeal", x.annul(3), 6);
        due("a carriage", x.annul(1), 7);
        int[] none = {0, -1, 1, 2, 3, 5, 6, 7, 8, 200, 201, LEAST, MOST};
        for (int act : none) {
            due("act " + act, x.annul(act), NONE);
        }
        due("nothing was done", x.all(4), 7);
        due("the other one", x.annul(4), 8);
    }

    // ---- promise 14

    private static void asAtAnAct() {
        by("14: From now on all is told as known at an ACT: true; false if there is none such");
        CartFellows x = book();
        int[] none = {1, -2, 200, 201, LEAST, MOST};
        for (int act : none) {
            Checks.fails("without acts, " + act, x.as(act));
        }
        tell(x, 0, 0, 3);
        tell(x, 0, 0, 4);
        tell(x, 0, 0, 5);
        Checks.holds("2", x.as(2));
        due("as known at 2", x.fines(0), 7);
        int[] wrong = {4, -2, 200, 201, LEAST, MOST};
        for (int act : wrong) {
            Checks.fails("act " + act, x.as(act));
            due("it stays", x.all(5), 2);
            due("it stays", x.fines(0), 7);
        }
        Checks.holds("the first", x.as(1));
        due("as known at 1", x.fines(0), 3);
        Checks.holds("the last", x.as(3));
        due("as known at 3", x.fines(0), 12);
        tell(x, 0, 0, 6);
        due("from now on at 3", x.fines(0), 12);
        due("from now on at 3", x.all(5), 3);
        due("there are more", x.all(4), 4);
    }

    private static void asAtNone() {
        by("14: (0: none)");
        CartFellows x = book();
        Checks.holds("without acts", x.as(0));
        tell(x, 0, 0, 3);
        tell(x, 0, 1, 3);
        due("no fines", x.fines(0), 0);
        due("no fine", x.fine(1, 0), NONE);
        due("no quarrel", x.quarrels(), 0);
        due("none right", x.right(0), 0);
        due("as at 0", x.all(5), 0);
        due("all acts", x.all(4), 2);
        x.as(2);
        Checks.holds("0 again", x.as(0));
        due("no fines", x.fines(0), 0);
    }

    private static void alwaysTheLast() {
        by("14: NONE: always the last one");
        CartFellows x = book();
        tell(x, 0, 0, 3);
        due("at first", x.fines(0), 3);
        x.as(0);
        Checks.holds("NONE", x.as(NONE));
        due("the last one", x.fines(0), 3);
        due("the last one", x.all(5), 1);
        tell(x, 0, 0, 4);
        due("always", x.fines(0), 7);
        due("always", x.all(5), 2);
        x.annul(1);
        due("always", x.fines(0), 4);
        due("always", x.all(5), 3);
        Checks.holds("again", x.as(-1));
        due("always", x.all(5), 3);
    }

    // ---- Term III: as known

    private static void upToAnAct() {
        by("III: As known at ACT n: ACTS up to n");
        CartFellows x = book();
        tell(x, 0, 0, 1);
        x.witness(1, false);
        tell(x, 0, 1, 10);
        tell(x, 0, 0, 100);
        x.appeal(4, 0);
        int[] fines = {0, 1, 1, 1, 101, 1};
        int[] quarrels = {0, 0, 0, 1, 1, 1};
        int[] right = {0, 0, 0, 3, 3, 3};
        for (int act = 0; act <= 5; act++) {
            x.as(act);
            due("fines at " + act, x.fines(0), fines[act]);
            due("quarrels at " + act, x.quarrels(), quarrels[act]);
            due("right at " + act, x.right(0), right[act]);
            due("fine of the last at " + act, x.fine(4, 0), act < 4 ? NONE : act == 4 ? 100 : 0);
        }
    }

    private static void notVoidByThen() {
        by("III: that are not VOID by n");
        CartFellows x = book();
        tell(x, 0, 0, 1);
        tell(x, 0, 1, 10);
        x.witness(2, true);
        x.appeal(1, 0);
        x.annul(4);
        x.annul(3);
        x.annul(2);
        int[] fines = {0, 1, 1, 1, 0, 1, 1, 1};
        int[] ofOther = {0, 0, 10, 10, 10, 10, 10, 0};
        int[] right = {0, 0, 1, 2, 2, 2, 1, 0};
        for (int act = 0; act <= 7; act++) {
            x.as(act);
            due("fines at " + act, x.fines(0), fines[act]);
            due("fines of the other at " + act, x.fines(1), ofOther[act]);
            due("fine of the other at " + act, x.fine(2, 0), act < 2 || act == 7 ? NONE : 10);
            due("right at " + act, x.right(0), right[act]);
        }
    }

    private static void notKnownCarriage() {
        by("III: a WITNESS of a CARRIAGE that is not known counts for nothing");
        CartFellows x = book();
        tell(x, 0, 0, 0);
        tell(x, 0, 1, 0);
        tell(x, 0, 2, 0);
        x.witness(3, true);
        x.witness(3, true);
        x.witness(2, true);
        due("the most", x.right(0), 3);
        x.annul(3);
        due("of those known", x.right(0), 2);
        due("a witness of one that is not known", x.witness(3, true), 8);
        due("counts for nothing", x.right(0), 2);
        x.as(6);
        due("by then it was known", x.right(0), 3);
    }

    private static void appealOfNotKnown() {
        by("III: an APPEAL of a CARRIAGE that is not known counts for nothing");
        CartFellows x = book();
        tell(x, 0, 0, 5);
        tell(x, 0, 0, 7);
        x.appeal(1, 0);
        due("known", x.fines(0), 7);
        x.annul(1);
        due("not known", x.fines(0), 7);
        due("not known", x.fine(1, 0), NONE);
        due("an appeal of one that is not known", x.appeal(1, 0), 5);
        due("counts for nothing", x.fines(0), 7);
        x.as(2);
        due("ahead of it", x.fines(0), 12);
        x.as(3);
        due("appealed, not void", x.fine(1, 0), 0);
    }

    // ---- promises 16 to 18

    private static void fineToBePaid() {
        by("16: what is to be paid (0 if its TEST does not hold, or it is appealed)");
        CartFellows x = book();
        x.told(0, 0, 0, 1, 0, 0, 7, true);
        x.told(0, 0, 0, 1, 0, 0, 9, false);
        due("holds", x.fine(1, 0), 7);
        due("holds", x.fine(1, 1), 100);
        due("its test does not hold", x.fine(2, 1), 0);
        x.appeal(1, 1);
        due("appealed", x.fine(1, 1), 0);
        due("the other of it", x.fine(1, 0), 7);
        due("that of another", x.fine(2, 0), 9);
        x.appeal(1, 1);
        x.annul(3);
        due("appealed twice, once void", x.fine(1, 1), 0);
        x.annul(4);
        due("both void", x.fine(1, 1), 100);
        x.as(3);
        due("as known", x.fine(1, 1), 0);
    }

    private static void noFine() {
        by("16: NONE if it is none such, or not known");
        CartFellows x = book();
        due("without acts", x.fine(1, 0), NONE);
        tell(x, 0, 0, 7);
        int[] fines = {-1, 2, 11, 12, 31, 32, LEAST, MOST};
        for (int fine : fines) {
            due("fine " + fine, x.fine(1, fine), NONE);
        }
        x.witness(1, true);
        x.appeal(1, 1);
        x.annul(2);
        int[] acts = {0, -1, 2, 3, 4, 5, 200, 201, LEAST, MOST};
        for (int act : acts) {
            due("of act " + act, x.fine(act, 0), NONE);
        }
        due("known", x.fine(1, 0), 7);
        x.as(0);
        due("not known yet", x.fine(1, 0), NONE);
        x.as(1);
        due("known just then", x.fine(1, 0), 7);
        x.as(NONE);
        x.annul(1);
        due("void", x.fine(1, 0), NONE);
        x.as(4);
        due("void later", x.fine(1, 0), 7);
    }

    private static void finesOfACart() {
        by("III: FINES of a cart: over its CARRIAGES as known each FINE whose TEST holds, but those appealed");
        CartFellows x = book();
        x.told(0, 4, 0, 1, 0, 0, 7, true);
        x.told(1, 4, 0, 1, 0, 0, 9, false);
        x.told(2, 5, 0, 1, 0, 0, 1, true);
        due("both of both", x.fines(4), 7 + 100 + 9);
        due("another's", x.fines(5), 101);
        x.appeal(1, 1);
        due("but that", x.fines(4), 7 + 9);
        x.appeal(2, 1);
        due("one that does not hold", x.fines(4), 7 + 9);
        x.appeal(3, 0);
        due("another's appeal", x.fines(4), 7 + 9);
        due("another's", x.fines(5), 100);
    }

    private static void noFinesOfACart() {
        by("17: FINES of a cart (0 .. 15); 18: NONE likewise");
        CartFellows x = book();
        int[] wrong = {-1, 16, LEAST, MOST};
        for (int cart : wrong) {
            due("fines of " + cart, x.fines(cart), NONE);
            due("barred " + cart, x.barred(cart), NONE);
        }
        for (int cart = 0; cart < 16; cart++) {
            due("fines of " + cart, x.fines(cart), 0);
            due("barred " + cart, x.barred(cart), 0);
        }
    }

    /** Nine FINES of 10 to the 7, one of so much less the WAIT, one of the WEIGHT at its turn. */
    private static CartFellows dear(String more) {
        StringBuilder laws = new StringBuilder("kind a most 5;");
        for (int i = 0; i < 9; i++) {
            laws.append("fine f").append((char) ('a' + i)).append(" is 10000*1000 for all;");
        }
        return Checks.with(laws + "fine less is 10000*1000-wait for all;fine more is weight for turn=1;" + more);
    }

    private static void toldAsMost() {
        by("IV: FINES of a cart are told as 2000000000, if they are above that");
        CartFellows x = dear("");
        for (int i = 1; i < 20; i++) {
            tell(x, 0, 0, 0);
            due("told " + i, x.fines(0), 100000000L * i);
        }
        int act = tell(x, 0, 0, 1);
        due("1 below", x.fines(0), MOST_TOLD - 1);
        x.annul(act);
        x.told(0, 0, 0, 1, 0, 0, 1, true);
        due("as much", x.fines(0), MOST_TOLD);
        x.annul(x.all(4));
        x.told(0, 0, 0, 2, 0, 0, 1, true);
        due("1 above", x.fines(0), MOST_TOLD);
        for (int i = 20; i < 150; i++) {
            tell(x, 0, 0, 0);
            due("far above " + i, x.fines(0), MOST_TOLD);
        }
        x.as(2);
        due("below again", x.fines(0), 200000000);
    }

    private static void wholeSums() {
        by("IV: (BARRED goes by the whole sums)");
        CartFellows x = dear("bar 99999;");
        for (int i = 1; i <= 100; i++) {
            tell(x, 0, 7, 0);
            due("barred with " + i, x.barred(7), 1);
        }
        due("another", x.barred(6), 0);
    }

    private static void aboveThat() {
        by("18: Whether a cart is BARRED: 1, 0 (with FINES above that)");
        CartFellows x = Checks.with("kind a most 5;fine f is wait for all;bar 10;");
        due("none", x.barred(0), 0);
        tell(x, 0, 0, 9);
        due("9 of 10", x.barred(0), 0);
        tell(x, 0, 0, 1);
        due("10 of 10", x.barred(0), 0);
        tell(x, 0, 0, 1);
        due("11 of 10", x.barred(0), 1);
        x.appeal(1, 0);
        due("2 of 10", x.barred(0), 0);
        tell(x, 0, 15, 11);
        due("the last cart", x.barred(15), 1);
        due("another", x.barred(14), 0);
    }

    private static void barredAsKnown() {
        by("18: as known");
        CartFellows x = Checks.with("kind a most 5;fine f is wait for all;bar 10;");
        tell(x, 0, 0, 10);
        tell(x, 0, 0, 1);
        x.annul(1);
        int[] want = {0, 0, 1, 0};
        for (int act = 0; act <= 3; act++) {
            x.as(act);
            due("at " + act, x.barred(0), want[act]);
        }
    }

    // ---- promises 19, 20

    private static void unlikeCarts() {
        by("III: QUARREL: CALLS of which two CARRIAGES of unlike carts are known; 19: How many QUARRELS there are, as known");
        CartFellows x = book();
        due("none", x.quarrels(), 0);
        tell(x, 0, 3, 0);
        due("one carriage", x.quarrels(), 0);
        tell(x, 0, 3, 0);
        due("two of one cart", x.quarrels(), 0);
        tell(x, 1, 4, 0);
        due("another call's", x.quarrels(), 0);
        tell(x, 0, 4, 0);
        due("of unlike carts", x.quarrels(), 1);
        tell(x, 0, 5, 0);
        due("three carts, one call", x.quarrels(), 1);
        x.as(3);
        due("as known", x.quarrels(), 0);
        x.as(4);
        due("as known", x.quarrels(), 1);
        x.as(NONE);
        x.annul(5);
        due("still two", x.quarrels(), 1);
        x.annul(4);
        due("one cart is left", x.quarrels(), 0);
        x = book();
        for (int call = 0; call < 40; call++) {
            tell(x, call, 0, 0);
            tell(x, call, 15, 0);
            due("quarrels", x.quarrels(), call + 1);
        }
    }

    private static void mostWitnesses() {
        by("III: RIGHT is that with the most WITNESSES for less those against");
        CartFellows x = book();
        tell(x, 5, 0, 0);
        tell(x, 5, 1, 0);
        x.witness(2, true);
        due("one for", x.right(5), 2);
        x.witness(1, true);
        x.witness(1, true);
        due("two for", x.right(5), 1);
        x.witness(1, false);
        x.witness(1, false);
        due("two for, two against", x.right(5), 2);
        x.witness(2, false);
        x.witness(2, false);
        due("below 0", x.right(5), 1);
        x.annul(8);
        x.annul(9);
        due("those are void", x.right(5), 2);
        x.as(5);
        due("as known", x.right(5), 1);
        x = book();
        tell(x, 5, 0, 0);
        tell(x, 5, 1, 0);
        x.witness(1, false);
        due("against the first", x.right(5), 2);
        x.witness(2, false);
        x.witness(2, false);
        due("more against the second", x.right(5), 1);
        tell(x, 5, 2, 0);
        due("none against the last act", x.right(5), 6);
    }

    private static void toldFirst() {
        by("III: of several the one told first");
        CartFellows x = book();
        tell(x, 5, 9, 0);
        tell(x, 5, 1, 0);
        tell(x, 5, 0, 0);
        due("without witnesses", x.right(5), 1);
        x.witness(1, false);
        due("of those left", x.right(5), 2);
        x.witness(3, true);
        x.witness(2, true);
        due("as many", x.right(5), 2);
        x.witness(1, true);
        x.witness(1, true);
        due("as many, all", x.right(5), 1);
        x.annul(1);
        due("of those known", x.right(5), 2);
        x = book();
        tell(x, 5, 1, 0);
        tell(x, 5, 1, 0);
        tell(x, 5, 2, 0);
        due("of one cart's two", x.right(5), 1);
        x.witness(2, true);
        due("of one cart's two", x.right(5), 2);
    }

    private static void noQuarrel() {
        by("20: Of the QUARREL of a CALL (0 .. 39); 0 without a QUARREL; NONE if it can't be");
        CartFellows x = book();
        int[] wrong = {-1, 40, LEAST, MOST};
        for (int round = 0; round < 2; round++) {
            for (int call : wrong) {
                due("call " + call, x.right(call), NONE);
            }
            due("call 0", x.right(0), 0);
            due("call 38", x.right(38), 0);
            due("call 39", x.right(39), round);
            tell(x, 39, 1, 0);
            tell(x, 39, 2, 0);
            tell(x, 0, 2, 0);
            tell(x, 0, 2, 0);
        }
        x.as(1);
        due("not known yet", x.right(39), 0);
    }
}
