/** Promise by promise: ordinary inputs, the edges that the document names, wrong inputs. */
public final class PromiseTests {
    private static final int NONE = CartFellows.NONE;
    private static final int NO_GAINS = -2000000001;

    private PromiseTests() {
    }

    public static void main(String[] args) {
        newObject();
        tape();
        streets();
        laws();
        tapeBehindLaws();
        names();
        shut();
        drive();
        told();
        acts();
        asKnown();
        rates();
        fines();
        barred();
        quarrels();
        standsAndWharves();
        cartsAndCalls();
        emptyRun();
        oneTrip();
        turns();
        free();
        work();
        wharf();
        endOfDay();
        waitsInOrder();
        backInOrder();
        notBarred();
        part();
        gains();
        book();
        plan();
        all();
        Checks.close("PromiseTests");
    }

    private static void due(String what, long got, long want) {
        Checks.due(what, got, want);
    }

    private static void holds(String what, boolean got) {
        Checks.holds(what, got);
    }

    private static void fails(String what, boolean got) {
        Checks.fails(what, got);
    }

    // promise 1
    private static void newObject() {
        CartFellows x = new CartFellows();
        for (int what = 0; what <= 8; what++) {
            due("1 all " + what, x.all(what), 0);
        }
        due("1 planned", x.planned(), NONE);
        due("1 fault", x.fault(0), 0);
        due("1 day", x.day(0), NONE);
        due("1 taken", x.taken(0, 0), NONE);
        due("1 cartOf", x.cartOf(0, 0), NONE);
        due("1 wear", x.wear(0), NONE);
        due("1 part", x.part(10, 0), NONE);
        due("1 book", x.book(), NONE);
        due("1 gains", x.gains(0), NO_GAINS);
        due("1 tape", x.feed(0, 0, 0, 0, 0), 20);
        due("1 constant", CartFellows.NONE, -1);
    }

    // promises 2, 3
    private static void tape() {
        CartFellows x = new CartFellows();
        fails("3 end above", x.end(1));
        holds("3 end 0", x.end(0));
        fails("3 end below", x.end(-1));
        for (int i = 1; i <= 50; i++) {
            due("2 feed", x.feed(1, 2, 3, 4, 5), 20 * i);
        }
        due("2 feed full", x.feed(1, 2, 3, 4, 5), NONE);
        holds("3 end 981", x.end(981));
        due("2 feed above 1000", x.feed(1, 2, 3, 4, 5), NONE);
        fails("3 end 982", x.end(982));
        holds("3 end 980", x.end(980));
        due("2 feed to 1000", x.feed(1, 2, 3, 4, 5), 1000);
        // the highest byte first: "bar " "7 ; " and blanks of both sorts
        x.end(0);
        x.feed(0x62617220, 0x37203b0a, 0x20202020, 0x0a0a0a0a, 0x20202020);
        due("2 bytes", x.laws(), 1);
        x.feed(0x80000000, 0, 0, 0, 0);
        due("2 a byte above 127", x.laws(), -1);
        due("2 its place", x.fault(1), 0);
    }

    // promise 4
    private static void streets() {
        CartFellows x = new CartFellows();
        int[][] wrong = {{-1, 1, 5, 5}, {0, 12, 5, 5}, {12, 0, 5, 5}, {0, -1, 5, 5}, {3, 3, 5, 5}, {0, 1, 0, 5},
            {0, 1, 61, 5}, {0, 1, 5, 0}, {0, 1, 5, 101}, {0, 1, -5, 5}, {0, 1, 5, -5}};
        for (int[] w : wrong) {
            due("4 wrong street", x.street(w[0], w[1], w[2], w[3]), NONE);
        }
        due("4 least", x.street(0, 11, 1, 1), 1);
        for (int i = 2; i <= 24; i++) {
            due("4 street", x.street(0, 1, 60, 100), i);
        }
        due("4 a 25th", x.street(0, 1, 60, 100), NONE);
        due("4 all", x.all(0), 24);
        due("4 both ways", x.drive(11, 0, 0, 0), 1);
    }

    // promises 2, 3, 5: the tape goes with a fault as it does without one
    private static void tapeBehindLaws() {
        CartFellows x = Checks.with("kind a most 5;bar 3;");
        x.told(1, 2, 0, 5, 5, 5, 5, true);
        due("5 fault", Checks.laws(x, "bar 3; x"), -1);
        fails("5 the tape goes with a fault: end", x.end(1));
        holds("5 the tape goes with a fault: end 0", x.end(0));
        due("5 the tape goes with a fault: feed", x.feed(0, 0, 0, 0, 0), 20);
        due("5 zeros are no by-laws", x.laws(), -1);
        due("6 the fault is of the latest", x.fault(1), 0);
        for (int i = 1; i <= 50; i++) {
            due("5 a tape anew", x.feed(0, 0, 0, 0, 0), 20 * i);
        }
        due("5 a full tape at fault", x.laws(), -1);
        due("5 all stays", x.all(4) * 10 + x.all(1), 11);
        // "bar 7;" and blanks: read alone, not behind what was at fault
        due("5 feed behind a fault", x.feed(0x62617220, 0x373b2020, 0x20202020, 0x20202020, 0x20202020), 20);
        due("5 by-laws behind a fault", x.laws(), 1);
        due("6 no fault any more", x.fault(0), 0);
        due("5 acts go", x.all(4), 0);
        due("5 fault again", Checks.laws(x, "bar"), -1);
        due("5 the empty tape behind a fault", x.laws(), 0);
        due("6 the empty tape has none", x.fault(1), NONE);
        due("5 and its by-laws hold", x.all(3), 0);
    }

    // promises 5, 6 (LawTests has the faults)
    private static void laws() {
        CartFellows x = new CartFellows();
        due("5 no text", x.laws(), 0);
        due("6 place without", x.fault(1), NONE);
        due("6 wrong what", x.fault(2), NONE);
        due("6 wrong what", x.fault(-1), NONE);
        due("5 statements", Checks.laws(x, "kind a most 5;fine b is 1 for all;bar 3;work 5 rest 5;"), 4);
        due("5 kinds", x.all(1), 1);
        due("5 fines", x.all(2), 1);
        due("5 others", x.all(3), 2);
        due("5 the tape goes", x.feed(0, 0, 0, 0, 0), 20);
        x.street(0, 1, 5, 5);
        x.stand(0);
        x.wharf(1, true);
        x.cart(0, 1);
        x.call(5, 0, 1, 0, 5);
        x.run(true);
        x.plan(1);
        x.told(1, 2, 0, 5, 5, 5, 5, true);
        x.as(0);
        due("5 fault", Checks.laws(x, "bar 3; x"), -1);
        due("6 fault", x.fault(0), 1);
        due("6 place", x.fault(1), 7);
        due("5 all stays: kinds", x.all(1), 1);
        due("5 all stays: acts", x.all(4), 1);
        due("5 all stays: as", x.all(5), 0);
        due("5 all stays: carts", x.all(7), 1);
        due("5 all stays: run", x.taken(0, 0), 0);
        due("5 all stays: calls", x.all(8), 1);
        due("5 all stays: bar", x.all(3), 2);
        due("5 other laws", Checks.laws(x, "kind b most 7;bar 3;"), 2);
        due("6 no fault", x.fault(0), 0);
        due("6 no place", x.fault(1), NONE);
        due("5 streets stay", x.all(0), 1);
        due("5 stands stay", x.all(6), 1);
        fails("5 wharves stay", x.wharf(1, true));
        due("5 planned stays", x.planned(), 1);
        due("5 acts go", x.all(4), 0);
        due("5 as goes", x.told(1, 2, 0, 5, 5, 5, 5, true), 1);
        due("5 as is NONE", x.all(5), 1);
        due("5 carts go", x.all(7), 0);
        due("5 calls go", x.all(8), 0);
        due("5 the run goes", x.day(0), NONE);
        due("5 the run goes", x.book(), NONE);
        due("5 fines go", x.all(2), 0);
    }

    // promise 7
    private static void names() {
        CartFellows x = Checks.with("kind az most 5;kind abcdefgh most 5;fine q is 1 for all;fine rs is 1 for all;");
        due("7 a", x.name(false, 0, 0), 'a');
        due("7 z", x.name(false, 0, 1), 'z');
        due("7 behind", x.name(false, 0, 2), NONE);
        due("7 ahead", x.name(false, 0, -1), NONE);
        due("7 last", x.name(false, 1, 7), 'h');
        due("7 9th", x.name(false, 1, 8), NONE);
        due("7 no kind", x.name(false, 2, 0), NONE);
        due("7 no kind", x.name(false, -1, 0), NONE);
        due("7 fine", x.name(true, 0, 0), 'q');
        due("7 second fine", x.name(true, 1, 0), 'r');
        due("7 second fine", x.name(true, 1, 1), 's');
        due("7 no fine", x.name(true, 2, 0), NONE);
        due("7 no fine", x.name(true, -1, 0), NONE);
    }

    // promise 8
    private static void shut() {
        CartFellows x = Checks.with("shut 0 to 1 from 100 to 200;shut 1 to 2 from 0 to 0;shut 2 to 1 from 1439 to 1439;");
        x.street(1, 0, 5, 5);
        x.street(1, 2, 5, 5);
        due("8 ahead", x.shut(0, 1, 99), 0);
        due("8 first", x.shut(0, 1, 100), 1);
        due("8 last", x.shut(0, 1, 200), 1);
        due("8 behind", x.shut(0, 1, 201), 0);
        due("8 the other way", x.shut(1, 0, 150), 0);
        due("8 one minute", x.shut(1, 2, 0), 1);
        due("8 one minute", x.shut(1, 2, 1), 0);
        due("8 end of day", x.shut(2, 1, 1439), 1);
        due("8 end of day", x.shut(2, 1, 1438), 0);
        int[][] wrong = {{0, 1, -1}, {0, 1, 1440}, {-1, 1, 5}, {0, 12, 5}, {12, 0, 5}, {1, 1, 5}, {0, 2, 150}, {3, 4, 5}};
        for (int[] w : wrong) {
            due("8 none such", x.shut(w[0], w[1], w[2]), NONE);
        }
    }

    // promise 9
    private static void drive() {
        CartFellows x = Checks.with("shut 0 to 1 from 10 to 20;shut 0 to 1 from 21 to 30;shut 1 to 2 from 0 to 1439;");
        x.street(0, 1, 5, 7);
        x.street(1, 2, 4, 9);
        x.street(0, 3, 5, 1);
        x.street(3, 1, 16, 2);
        x.street(1, 0, 5, 11);
        due("9 itself", x.drive(4, 4, 50, 0), 50);
        due("9 itself, yards", x.drive(4, 4, 50, 1), 0);
        due("9 itself, street", x.drive(4, 4, 50, 2), NONE);
        due("9 there", x.drive(0, 1, 9, 0), 14);
        due("9 yards", x.drive(0, 1, 9, 1), 7);
        due("9 the least street", x.drive(0, 1, 9, 2), 0);
        due("9 round about", x.drive(0, 1, 10, 0), 31);
        due("9 round about, yards", x.drive(0, 1, 10, 1), 3);
        due("9 round about, street", x.drive(0, 1, 10, 2), 3);
        // by street 0 after a wait, or by 3 round about: both at 36, the least number counts
        due("9 as soon both ways", x.drive(0, 1, 15, 0), 36);
        due("9 as soon both ways", x.drive(0, 1, 15, 2), 0);
        due("9 back", x.drive(1, 0, 15, 0), 20);
        due("9 shut all day", x.drive(1, 2, 3, 0), 1444);
        due("9 behind the day", x.drive(1, 2, 1440, 0), 1444);
        due("9 the last minute", x.drive(1, 2, 9999, 0), 10003);
        due("9 not reached", x.drive(0, 5, 0, 0), NONE);
        int[][] wrong = {{-1, 0, 0, 0}, {0, -1, 0, 0}, {12, 0, 0, 0}, {0, 12, 0, 0}, {0, 1, -1, 0}, {0, 1, 10000, 0},
            {0, 1, 0, 3}, {0, 1, 0, -1}, {0, 0, 0, 3}};
        for (int[] w : wrong) {
            due("9 none such", x.drive(w[0], w[1], w[2], w[3]), NONE);
        }
    }

    // promise 10
    private static void told() {
        CartFellows x = Checks.with("kind a most 5;");
        int[][] wrong = {{-1, 0, 0, 1, 0, 0, 0}, {40, 0, 0, 1, 0, 0, 0}, {0, -1, 0, 1, 0, 0, 0}, {0, 16, 0, 1, 0, 0, 0},
            {0, 0, -1, 1, 0, 0, 0}, {0, 0, 1, 1, 0, 0, 0}, {0, 0, 0, 0, 0, 0, 0}, {0, 0, 0, 10000, 0, 0, 0},
            {0, 0, 0, 1, -1, 0, 0}, {0, 0, 0, 1, 10000, 0, 0}, {0, 0, 0, 1, 0, -1, 0}, {0, 0, 0, 1, 0, 10000, 0},
            {0, 0, 0, 1, 0, 0, -1}, {0, 0, 0, 1, 0, 0, 10000}};
        for (int[] w : wrong) {
            due("10 can't be", x.told(w[0], w[1], w[2], w[3], w[4], w[5], w[6], true), NONE);
        }
        due("10 least", x.told(0, 0, 0, 1, 0, 0, 0, false), 1);
        due("10 most", x.told(0, 15, 0, 9999, 9999, 9999, 9999, true), 2);
        for (int i = 3; i <= 200; i++) {
            due("10 told", x.told(0, 0, 0, 1, 0, 0, 0, false), i);
        }
        due("10 a 201st", x.told(0, 0, 0, 1, 0, 0, 0, false), NONE);
        due("11 a 201st", x.witness(1, true), NONE);
        due("12 a 201st", x.appeal(1, 0), NONE);
        due("13 a 201st", x.annul(1), NONE);
        due("13 it is known all the same", x.quarrels(), 1);
    }

    // promises 11, 12, 13
    private static void acts() {
        CartFellows x = Checks.with("kind a most 5;fine f is 5 for all;fine g is 5 for wait > 5;");
        due("11 none", x.witness(1, true), NONE);
        x.told(3, 1, 0, 1, 0, 0, 0, false);
        due("11 for", x.witness(1, true), 2);
        due("11 against", x.witness(1, false), 3);
        due("11 of a witness", x.witness(2, true), NONE);
        due("11 of 0", x.witness(0, true), NONE);
        due("11 of -1", x.witness(-1, true), NONE);
        due("12 appeal", x.appeal(1, 0), 4);
        due("12 of a fine that it has not", x.appeal(1, 1), 5);
        due("12 no fine", x.appeal(1, 2), NONE);
        due("12 no fine", x.appeal(1, -1), NONE);
        due("12 of a witness", x.appeal(2, 0), NONE);
        due("12 of none", x.appeal(6, 0), NONE);
        due("13 annul", x.annul(2), 6);
        due("13 again", x.annul(2), NONE);
        due("13 of a void", x.annul(6), NONE);
        due("13 of none", x.annul(7), NONE);
        due("13 of 0", x.annul(0), NONE);
        due("13 of -1", x.annul(-1), NONE);
        due("13 a carriage", x.annul(1), 7);
        due("13 an appeal", x.annul(4), 8);
        x.as(1);
        due("13 void, though not as known", x.annul(2), NONE);
        due("11 of a void carriage", x.witness(1, true), 9);
    }

    // promise 14
    private static void asKnown() {
        CartFellows x = Checks.with("kind a most 5;fine f is 5 for all;");
        fails("14 none such", x.as(1));
        fails("14 none such", x.as(-2));
        holds("14 none", x.as(0));
        x.told(3, 1, 0, 1, 0, 0, 0, false);
        x.appeal(1, 0);
        x.annul(2);
        x.annul(1);
        int[] want = {0, 5, 0, 5, 0};
        for (int act = 0; act <= 4; act++) {
            holds("14 as", x.as(act));
            due("14 as known at " + act, x.fines(1), want[act]);
            due("35 as", x.all(5), act);
        }
        fails("14 none such", x.as(5));
        due("14 as ahead", x.all(5), 4);
        holds("14 the last one", x.as(NONE));
        x.told(3, 1, 0, 1, 0, 0, 0, false);
        due("14 always the last one", x.fines(1), 5);
        due("14 always the last one", x.all(5), 5);
        x.as(5);
        x.told(3, 1, 0, 1, 0, 0, 0, false);
        due("14 not the last one", x.fines(1), 5);
    }

    private static int worth(String sum) {
        CartFellows x = Checks.with("kind a most 5;kind b most 5;rate " + sum + " for all;");
        x.told(0, 0, 1, 37, 1200, 700, 44, true);
        return x.rate(1);
    }

    private static int holdsFor(String test) {
        CartFellows x = Checks.with("kind a most 5;kind b most 5;rate 1 for " + test + ";");
        x.told(0, 0, 1, 37, 1200, 700, 44, true);
        return x.rate(1);
    }

    // promise 15
    private static void rates() {
        due("15 parts", worth("yards+weight*10000+minute+wait*3+turn*7"), 1200 + 370000 + 700 + 132 + 7);
        due("15 from the left", worth("100-10-5"), 85);
        due("15 from the left", worth("7/2*2"), 6);
        due("15 product first", worth("2+3*4"), 14);
        due("15 brackets", worth("(2+3)*4"), 20);
        due("15 not above", worth("100+(0-7)/2"), 96);
        due("15 not above", worth("100+7/(0-2)"), 96);
        due("15 not above", worth("100+(0-7)/(0-2)"), 103);
        due("15 by 0", worth("5/(turn-1)"), 0);
        due("15 min", worth("min(wait,weight)"), 37);
        due("15 max", worth("max ( wait , weight )"), 44);
        due("15 product bound", worth("99999*99999"), 10000000);
        due("15 low bound", worth("0-99999*99999-5+99999*100+101"), 1);
        due("15 sum bound", worth("9999*1000+99999"), 10000000);
        due("15 difference bound", worth("(0-9999*1000-99999+10)+9999*1000+1000"), 10 - 1000 + 1000);
        due("15 0 at least", worth("5-10"), 0);
        due("15 or", holdsFor("turn=0 or turn=1"), 1);
        due("15 and binds", holdsFor("turn=1 or turn=1 and turn=0"), 1);
        due("15 and binds", holdsFor("[turn=1 or turn=1] and turn=0"), 0);
        due("15 not", holdsFor("not turn=0"), 1);
        due("15 not not", holdsFor("not not turn=0"), 0);
        due("15 not binds", holdsFor("not turn=1 or turn=1"), 1);
        due("15 not [", holdsFor("not [turn=1 or turn=1]"), 0);
        due("15 is", holdsFor("is b"), 1);
        due("15 is not", holdsFor("is a"), 0);
        due("15 <", holdsFor("wait<44"), 0);
        due("15 <", holdsFor("43<wait"), 1);
        due("15 >", holdsFor("wait>44"), 0);
        due("15 >", holdsFor("wait>43"), 1);
        due("15 =", holdsFor("wait=44"), 1);
        due("15 all", holdsFor("all and [all]"), 1);
        CartFellows x = Checks.with("kind a most 5;rate 20 for all;rate 0-50 for wait>5;rate 40 for wait>9;"
            + "rate 99999*200 for turn=1;rate 99999*200 for turn=1;");
        x.told(0, 0, 0, 1, 0, 0, 0, false);
        x.told(0, 0, 0, 1, 0, 0, 6, false);
        x.told(0, 0, 0, 1, 0, 0, 10, false);
        x.told(0, 0, 0, 1, 0, 0, 10, true);
        due("15 one rate", x.rate(1), 20);
        due("15 0 at least in all", x.rate(2), 0);
        due("15 all rates", x.rate(3), 10);
        due("15 the sum of rates is not bound", x.rate(4), 20000010);
        x.annul(1);
        due("15 not known", x.rate(1), 20);
        due("15 no carriage", x.rate(5), NONE);
        due("15 no act", x.rate(6), NONE);
        due("15 no act", x.rate(0), NONE);
        due("15 no act", x.rate(-1), NONE);
    }

    // promises 16, 17
    private static void fines() {
        CartFellows x = Checks.with("kind a most 5;fine f is wait-3 for all;fine g is 9 for turn=1;");
        x.told(0, 4, 0, 1, 0, 0, 10, true);
        x.told(1, 4, 0, 1, 0, 0, 1, true);
        x.told(1, 4, 0, 1, 0, 0, 1, false);
        due("16 fine", x.fine(1, 0), 7);
        due("16 0 at least", x.fine(2, 0), 0);
        due("16 holds", x.fine(2, 1), 9);
        due("16 holds not", x.fine(3, 1), 0);
        due("16 no fine", x.fine(1, 2), NONE);
        due("16 no fine", x.fine(1, -1), NONE);
        due("16 no act", x.fine(4, 0), NONE);
        due("16 no act", x.fine(0, 0), NONE);
        due("17 sum", x.fines(4), 25);
        due("17 another", x.fines(3), 0);
        x.appeal(1, 0);
        due("16 appealed", x.fine(1, 0), 0);
        due("16 the other", x.fine(1, 1), 9);
        due("16 an appeal is no carriage", x.fine(4, 0), NONE);
        due("17 appealed", x.fines(4), 18);
        x.appeal(1, 0);
        x.annul(4);
        due("17 appealed twice, void once", x.fines(4), 18);
        x.annul(5);
        due("17 appeals void", x.fines(4), 25);
        x.annul(1);
        due("16 not known", x.fine(1, 0), NONE);
        due("17 not known", x.fines(4), 9);
        x.as(2);
        due("16 not yet known", x.fine(3, 1), NONE);
        due("17 as known", x.fines(4), 25);
        due("17 no cart", x.fines(16), NONE);
        due("17 no cart", x.fines(-1), NONE);
    }

    // promise 18
    private static void barred() {
        CartFellows x = Checks.with("kind a most 5;fine f is wait for all;bar 0;bar 10;");
        x.told(0, 4, 0, 1, 0, 0, 10, true);
        due("18 as much", x.barred(4), 0);
        x.told(0, 4, 0, 1, 0, 0, 1, true);
        due("18 above", x.barred(4), 1);
        due("18 another", x.barred(5), 0);
        x.as(1);
        due("18 as known", x.barred(4), 0);
        due("18 no cart", x.barred(16), NONE);
        due("18 no cart", x.barred(-1), NONE);
        x = Checks.with("kind a most 5;fine f is wait for all;");
        x.told(0, 4, 0, 1, 0, 0, 9999, true);
        due("18 without any", x.barred(4), 0);
        x = Checks.with("kind a most 5;fine f is wait for all;bar 0;");
        due("18 none of 0", x.barred(4), 0);
        x.told(0, 4, 0, 1, 0, 0, 1, true);
        due("18 above 0", x.barred(4), 1);
    }

    // promises 19, 20
    private static void quarrels() {
        CartFellows x = Checks.with("kind a most 5;");
        x.told(7, 1, 0, 1, 0, 0, 0, true);
        x.told(7, 1, 0, 1, 0, 0, 0, true);
        due("19 one cart", x.quarrels(), 0);
        due("20 no quarrel", x.right(7), 0);
        x.as(0);
        due("19 nothing known", x.quarrels(), 0);
        x.as(NONE);
        x.told(7, 2, 0, 1, 0, 0, 0, true);
        due("19 two carts", x.quarrels(), 1);
        due("20 the first", x.right(7), 1);
        x.witness(3, true);
        due("20 most witnesses", x.right(7), 3);
        x.witness(2, true);
        due("20 as many, the first", x.right(7), 2);
        x.witness(2, false);
        due("20 those against", x.right(7), 3);
        x.annul(6);
        due("20 void witness", x.right(7), 2);
        x.witness(2, false);
        x.witness(1, false);
        x.annul(4);
        due("20 of several the first", x.right(7), 2);
        x.witness(2, false);
        x.witness(3, false);
        x.witness(3, false);
        due("20 below 0", x.right(7), 1);
        x.told(7, 5, 0, 1, 0, 0, 0, true);
        due("20 the last act", x.right(7), x.all(4));
        x.annul(x.all(4));
        x.told(39, 1, 0, 1, 0, 0, 0, true);
        x.told(39, 2, 0, 1, 0, 0, 0, true);
        due("19 two quarrels", x.quarrels(), 2);
        x.annul(3);
        due("19 void", x.quarrels(), 1);
        due("20 void", x.right(7), 0);
        x.as(3);
        due("19 as known", x.quarrels(), 1);
        due("20 as known", x.right(7), 1);
        due("20 no call", x.right(40), NONE);
        due("20 no call", x.right(-1), NONE);
    }

    // promises 21, 22
    private static void standsAndWharves() {
        CartFellows x = new CartFellows();
        due("21 none such", x.stand(12), NONE);
        due("21 none such", x.stand(-1), NONE);
        for (int i = 0; i < 6; i++) {
            due("21 stand", x.stand(11 - i), i + 1);
            due("21 again", x.stand(11 - i), NONE);
        }
        due("21 a 7th", x.stand(0), NONE);
        due("21 all", x.all(6), 6);
        fails("22 none", x.wharf(12, true));
        fails("22 none", x.wharf(-1, true));
        fails("22 none any more", x.wharf(3, false));
        holds("22 wharf", x.wharf(3, true));
        fails("22 so already", x.wharf(3, true));
        holds("22 none any more", x.wharf(3, false));
        fails("22 so already", x.wharf(3, false));
    }

    // promises 23, 24
    private static void cartsAndCalls() {
        CartFellows x = Checks.with("kind a most 5;");
        due("23 no stand", x.cart(0, 1), NONE);
        x.stand(0);
        due("23 no place", x.cart(-1, 1), NONE);
        due("23 no place", x.cart(12, 1), NONE);
        for (int i = 0; i < 16; i++) {
            due("23 cart", x.cart(0, -i), i);
        }
        due("23 a 17th", x.cart(0, 1), NONE);
        int[][] wrong = {{-1, 0, 1, 0, 1}, {1440, 0, 1, 0, 1}, {0, -1, 1, 0, 1}, {0, 12, 1, 0, 1}, {0, 0, -1, 0, 1},
            {0, 0, 12, 0, 1}, {0, 1, 1, 0, 1}, {0, 0, 1, -1, 1}, {0, 0, 1, 1, 1}, {0, 0, 1, 0, 0}, {0, 0, 1, 0, 1000}};
        for (int[] w : wrong) {
            due("24 can't be", x.call(w[0], w[1], w[2], w[3], w[4]), NONE);
        }
        due("24 least", x.call(0, 0, 1, 0, 1), 0);
        due("24 most", x.call(1439, 11, 10, 0, 999), 1);
        for (int i = 2; i < 40; i++) {
            due("24 call", x.call(40 - i, 0, 1, 0, 1), i);
        }
        due("24 a 41st", x.call(0, 0, 1, 0, 1), NONE);
    }

    // promises 25 to 30 without carts or calls
    private static void emptyRun() {
        CartFellows x = new CartFellows();
        due("25 nothing", x.run(false), 0);
        for (int what = 0; what <= 5; what++) {
            due("28 nothing", x.day(what), 0);
        }
        due("28 other", x.day(6), NONE);
        due("28 other", x.day(-1), NONE);
        due("32 nothing", x.book(), 0);
        due("32 again", x.book(), NONE);
        x.run(true);
        due("32 another run", x.book(), 0);
        x.street(0, 1, 1, 1);
        due("29 a street that was not", x.wear(0), NONE);
    }

    /** Place 0 (the stand) 5 minutes from 1, 7 from there to 2, which is 9 from 0. */
    private static CartFellows triangle(String laws) {
        CartFellows x = Checks.with(laws);
        x.street(0, 1, 5, 10);
        x.street(1, 2, 7, 20);
        x.street(2, 0, 9, 30);
        x.stand(0);
        return x;
    }

    // promises 25 to 29
    private static void oneTrip() {
        CartFellows x = triangle("kind a most 30;kind b most 50;rate yards+wait for all;load 2;");
        x.cart(0, 3);
        x.cart(0, -1);
        x.call(100, 1, 2, 0, 21);
        x.call(100, 1, 2, 0, 31);
        due("25 one", x.run(true), 1);
        x.call(5, 1, 2, 1, 5);
        x.street(0, 5, 1, 1);
        x.cart(0, 3);
        x.wharf(2, true);
        int[] trip = {0, 105, 5, 20, 1, 25, 124, 133};
        for (int what = 0; what < 8; what++) {
            due("26 taken " + what, x.taken(0, what), trip[what]);
            due("26 above the kind's most", x.taken(1, what), NONE);
        }
        due("26 other", x.taken(0, 8), NONE);
        due("26 other", x.taken(0, -1), NONE);
        due("26 none such then", x.taken(2, 0), NONE);
        due("26 none such", x.taken(-1, 0), NONE);
        int[] cart = {25, 1, 33, 50 + 20 * 26 + 150, 0};
        int[] idle = {0, 0, 0, 0, 0};
        for (int what = 0; what < 5; what++) {
            due("27 cart " + what, x.cartOf(0, what), cart[what]);
            due("27 idle " + what, x.cartOf(1, what), idle[what]);
        }
        due("27 none such then", x.cartOf(2, 0), NONE);
        due("27 none such", x.cartOf(-1, 0), NONE);
        due("27 other", x.cartOf(0, 5), NONE);
        due("27 other", x.cartOf(0, -1), NONE);
        int[] day = {25, 5, 5, 1, 720, 2};
        for (int what = 0; what < 6; what++) {
            due("28 day " + what, x.day(what), day[what]);
        }
        due("29 to the call", x.wear(0), 50);
        due("29 loaded", x.wear(1), 520);
        due("29 back", x.wear(2), 150);
        due("29 none such then", x.wear(3), NONE);
        due("29 none such", x.wear(-1), NONE);
        due("25 again, with the new call", x.run(true), 2);
        due("25 licence", x.taken(2, 0), 0);
        due("29 the new street", x.wear(3), 0);
        Checks.laws(x, "kind a most 30;");
        x.cart(0, 1);
        x.run(true);
        due("26 of the run ahead", x.taken(0, 0), NONE);
        due("27 of the run ahead", x.cartOf(1, 1), NONE);
    }

    // promise 25: TURNS
    private static void turns() {
        CartFellows x = Checks.with("kind a most 99;kind b most 99;load 0;");
        x.street(0, 2, 4, 1);
        x.street(1, 2, 4, 1);
        x.street(1, 3, 3, 1);
        x.stand(1);
        x.stand(0);
        x.cart(1, 2);
        x.cart(1, 3);
        x.cart(0, 2);
        x.cart(0, 3);
        x.call(10, 2, 1, 0, 1);
        x.call(10, 2, 1, 1, 1);
        x.call(10, 3, 1, 1, 1);
        due("25 turns", x.run(true), 3);
        due("25 as soon, the least place, the first that may", x.taken(0, 0), 3);
        due("26 not its turn", x.taken(0, 4), 0);
        due("25 of those left", x.taken(1, 0), 2);
        due("26 its turn", x.taken(1, 4), 1);
        due("25 sooner", x.taken(2, 0), 0);
    }

    // promise 25: FREE
    private static void free() {
        CartFellows x = Checks.with("kind a most 99;load 0;rate 10 for all;");
        x.street(0, 1, 5, 1);
        x.street(1, 2, 3, 1);
        x.stand(0);
        x.stand(2);
        x.cart(0, 1);
        x.cart(0, 1);
        x.cart(2, 1);
        x.call(0, 1, 0, 0, 1);
        x.call(100, 1, 0, 0, 1);
        x.call(200, 1, 2, 0, 1);
        x.call(300, 1, 2, 0, 1);
        due("25 free", x.run(false), 4);
        due("25 sooner", x.taken(0, 0), 2);
        due("25 fewer farthings, least number", x.taken(1, 0), 0);
        due("25 fewer farthings", x.taken(2, 0), 1);
        due("26 free, its turn", x.taken(2, 4), 1);
        due("25 all alike, sooner", x.taken(3, 0), 1);
        due("27 at last", x.cartOf(1, 4), 2);
        due("27 back at the nearest stand", x.cartOf(2, 4), 0);
        x.run(true);
        due("25 by turns the nearest stand", x.taken(1, 0), 0);
        due("26 by turns", x.taken(1, 4), 1);
    }

    // promise 25: WORK and rest
    private static void work() {
        // one cart: there and back takes 10 minutes; the calls begin to be loaded at
        working("work 20 rest 30;", new int[] {0, 10, 20, 30, 49, 50}, new int[] {5, 15, 55, 65, 105, 115});
        working("work 21 rest 30;", new int[] {0, 10, 20, 30, 49, 50}, new int[] {5, 15, 25, 65, 75, 85});
        working("work 20 rest 30;", new int[] {0, 40, 50, 60}, new int[] {5, 45, 55, 95});
        working("work 20 rest 30;", new int[] {0, 39, 49, 60}, new int[] {5, 44, 84, 94});
        working("work 1 rest 0;", new int[] {0, 10, 20, 30, 40, 50}, new int[] {5, 15, 25, 35, 45, 55});
        working("work 1 rest 1;", new int[] {0, 10, 11, 22}, new int[] {5, 16, 27, 38});
        working("", new int[] {0, 10, 20, 30, 40, 50}, new int[] {5, 15, 25, 35, 45, 55});
        working("work 9 rest 600;work 20 rest 30;", new int[] {0, 10, 20}, new int[] {5, 15, 55});
        working("work 20 rest 600;", new int[] {0, 10, 20, 900}, new int[] {5, 15, 625, 905});
    }

    private static void working(String laws, int[] minutes, int[] begins) {
        CartFellows x = Checks.with("kind a most 9;load 0;" + laws);
        x.street(0, 1, 5, 1);
        x.stand(0);
        x.cart(0, 1);
        for (int minute : minutes) {
            x.call(minute, 1, 0, 0, 1);
        }
        x.run(true);
        for (int call = 0; call < minutes.length; call++) {
            due("25 " + laws + " call " + call, x.taken(call, 1), begins[call]);
        }
    }

    // promise 25: a WHARF
    private static void wharf() {
        CartFellows x = Checks.with("kind a most 99;load 10;");
        x.street(0, 1, 5, 1);
        x.street(1, 2, 5, 1);
        x.stand(0);
        x.cart(0, 1);
        x.cart(0, 1);
        x.cart(0, 1);
        x.call(0, 0, 2, 0, 30);
        x.call(0, 0, 2, 0, 10);
        x.call(0, 1, 2, 0, 10);
        x.run(true);
        due("25 no wharf", x.taken(0, 6), 70);
        due("25 no wharf", x.taken(1, 6), 30);
        due("25 no wharf", x.taken(2, 6), 30);
        x.wharf(2, true);
        x.run(true);
        // carts 1 and 2 come at 20, cart 0 at 40
        due("25 first the least cart", x.taken(1, 6), 30);
        due("25 then the next", x.taken(2, 6), 40);
        due("25 then it is free", x.taken(0, 6), 70);
        x.call(0, 0, 2, 0, 20);
        x.cart(0, 1);
        x.run(true);
        due("25 waits", x.taken(3, 6), 60);
        due("25 waits longer", x.taken(0, 6), 90);
        due("26 back", x.taken(0, 7), 100);
    }

    // promise 25: the end of the DAY
    private static void endOfDay() {
        CartFellows x = Checks.with("kind a most 99;load 0;shut 1 to 0 from 1400 to 1439;");
        x.street(0, 1, 5, 1);
        x.stand(0);
        x.cart(0, 1);
        x.call(1439, 0, 1, 0, 1);
        due("25 the last minute", x.run(true), 1);
        due("26 back behind the day", x.taken(0, 7), 1449);
        x.call(1435, 0, 1, 0, 1);
        due("25 one cart", x.run(false), 1);
        due("25 the first", x.taken(1, 7), 1445);
        due("25 not behind the day", x.taken(0, 0), NONE);
        due("28 not taken", x.day(3), 1);
    }

    // promise 25: CALLS that wait
    private static void waitsInOrder() {
        CartFellows x = Checks.with("kind a most 99;load 0;");
        x.street(0, 1, 5, 1);
        x.stand(0);
        x.cart(0, 1);
        x.call(3, 1, 0, 0, 1);
        x.call(10, 1, 0, 0, 1);
        x.call(2, 1, 0, 0, 1);
        x.call(0, 1, 0, 0, 1);
        x.call(2, 1, 0, 0, 1);
        due("25 all", x.run(true), 5);
        int[] minutes = {35, 45, 15, 5, 25};
        for (int call = 0; call < 5; call++) {
            due("25 in their order", x.taken(call, 1), minutes[call]);
        }
        due("28 waits", x.day(1), 32 + 35 + 13 + 5 + 23);
        due("28 the greatest", x.day(2), 35);
    }

    // promise 25: the order in which carts come back
    private static void backInOrder() {
        CartFellows x = Checks.with("kind a most 99;kind b most 99;load 0;");
        x.street(0, 1, 5, 1);
        x.stand(0);
        x.cart(0, 2);
        x.cart(0, 2);
        x.cart(0, 1);
        x.cart(0, 3);
        x.call(0, 1, 0, 0, 1);
        x.call(0, 1, 0, 1, 1);
        x.call(20, 1, 0, 0, 1);
        x.call(30, 0, 1, 1, 1);
        x.call(40, 1, 0, 1, 1);
        due("25 all", x.run(true), 5);
        due("25 cart 2", x.taken(0, 0), 2);
        due("25 cart 0", x.taken(1, 0), 0);
        // the line is 1, 3, then 0 and 2 by numbers
        due("25 the first that may", x.taken(2, 0), 3);
        due("26 not the first", x.taken(2, 4), 0);
        due("25 the first", x.taken(3, 0), 1);
        // now 0, 2, 3, 1
        due("25 to the end of the line", x.taken(4, 0), 0);
    }

    // promises 25, 27: BARRED carts
    private static void notBarred() {
        CartFellows x = triangle("kind a most 30;fine f is 5 for all;bar 4;");
        x.cart(0, 1);
        x.cart(0, 1);
        x.told(0, 0, 0, 1, 0, 0, 0, false);
        x.call(0, 0, 1, 0, 1);
        due("25 barred", x.run(true), 1);
        due("25 the other", x.taken(0, 0), 1);
        due("26 its turn", x.taken(0, 4), 1);
        int[] cart = {0, 0, 0, 0, NONE};
        for (int what = 0; what < 5; what++) {
            due("27 barred", x.cartOf(0, what), cart[what]);
        }
        due("28 carts that stood", x.day(5), 1);
        due("30 barred", x.part(100, 0), 0);
        due("30 the other", x.part(100, 1), 100);
        x.as(0);
        x.run(true);
        due("25 as known", x.taken(0, 0), 0);
        due("28 both", x.day(5), 2);
    }

    // promise 30
    private static void part() {
        CartFellows x = Checks.with("kind a most 99;load 0;");
        x.street(0, 1, 5, 1);
        x.stand(0);
        for (int cart = 0; cart < 4; cart++) {
            x.cart(0, 1);
        }
        due("30 ahead of any", x.part(10, 0), NONE);
        x.run(true);
        due("30 no wear", x.part(10, 0), 0);
        for (int call = 0; call < 3; call++) {
            x.call(0, 0, 1, 0, 1);
        }
        x.run(true);
        // three of like wear, one of none
        due("30 like rests, the least number", x.part(10, 0), 4);
        due("30 like rests", x.part(10, 1), 3);
        due("30 like rests", x.part(10, 2), 3);
        due("30 without wear", x.part(10, 3), 0);
        due("30 two lack", x.part(11, 1), 4);
        due("30 two lack", x.part(11, 2), 3);
        due("30 nothing", x.part(0, 0), 0);
        due("30 most", x.part(1000000, 0), 333334);
        due("30 can't be", x.part(1000001, 0), NONE);
        due("30 can't be", x.part(-1, 0), NONE);
        due("30 no cart", x.part(10, 4), NONE);
        due("30 no cart", x.part(10, -1), NONE);
        x.call(0, 0, 1, 0, 9);
        x.run(true);
        // wears 11 11 11 19 of 52: of 5 they owe 1.06 1.06 1.06 1.83
        due("30 the greatest rest", x.part(5, 3), 2);
        due("30 lesser rests", x.part(5, 0), 1);
        x.cart(0, 1);
        due("30 no cart then", x.part(10, 4), NONE);
    }

    // promise 31
    private static void gains() {
        CartFellows x = Checks.with("kind a most 99;load 0;rate 10 for all;rate 5 for turn=1;");
        x.street(0, 1, 5, 1);
        x.stand(0);
        x.stand(1);
        x.cart(0, 1);
        x.cart(1, 1);
        x.call(0, 0, 1, 0, 1);
        x.call(100, 1, 0, 0, 1);
        x.run(true);
        // by turns 0 takes both (then stands at 1, behind); free 1 takes the second
        due("31 ahead", x.day(0), 15 + 15);
        int byTurns0 = x.cartOf(0, 0);
        int byTurns1 = x.cartOf(1, 0);
        x.run(false);
        int free0 = x.cartOf(0, 0);
        int free1 = x.cartOf(1, 0);
        due("31 more or less", x.gains(0), byTurns0 - free0);
        due("31 more or less", x.gains(1), byTurns1 - free1);
        due("31 the latest run stays", x.cartOf(0, 0), free0);
        due("31 none such", x.gains(2), NO_GAINS);
        due("31 none such", x.gains(-1), NO_GAINS);
        x.cart(0, 1);
        due("31 not of the latest run", x.gains(2), 0);
        due("27 it was not there", x.cartOf(2, 0), NONE);

        x = Checks.with("kind a most 99;load 0;rate 5 for turn=1;");
        x.street(0, 1, 9, 1);
        x.street(1, 2, 1, 1);
        x.stand(0);
        x.stand(2);
        x.cart(0, 1);
        x.cart(2, 1);
        x.call(0, 1, 2, 0, 1);
        x.call(100, 1, 2, 0, 1);
        due("31 less", x.gains(0), -5);
        due("31 more", x.gains(1), 5);
        due("31 no run", x.day(0), NONE);
    }

    // promise 32
    private static void book() {
        CartFellows x = triangle("kind a most 30;kind b most 30;rate yards for all;fine f is wait for is b;");
        x.cart(0, 3);
        x.cart(0, 3);
        x.call(50, 1, 2, 1, 7);
        x.call(0, 1, 2, 0, 7);
        x.call(60, 1, 2, 0, 31);
        x.run(true);
        due("32 two", x.book(), 2);
        due("32 done", x.book(), NONE);
        due("32 acts", x.all(4), 2);
        due("32 by calls", x.fine(1, 0), 5);
        due("32 by calls", x.fine(2, 0), 0);
        due("32 rate", x.rate(1), 20);
        due("32 the cart", x.fines(x.taken(0, 0)), 5);
        int other = 1 - x.taken(0, 0);
        x.told(0, other, 0, 1, 1, 1, 1, true);
        due("32 the call", x.right(0), 1);
        x.run(true);
        while (x.all(4) < 199) {
            x.told(0, 0, 0, 1, 1, 1, 1, true);
        }
        due("32 too many", x.book(), NONE);
        due("32 nothing was told", x.all(4), 199);
        x = triangle("kind a most 30;");
        x.cart(0, 3);
        x.call(0, 1, 2, 0, 7);
        x.run(true);
        while (x.all(4) < 199) {
            x.told(0, 0, 0, 1, 1, 1, 1, true);
        }
        due("32 to 200", x.book(), 1);
    }

    // promises 33, 34
    private static void plan() {
        CartFellows x = Checks.with("kind a most 30;shut 0 to 1 from 0 to 99;");
        due("33 no calls", x.plan(1), NONE);
        x.street(0, 1, 5, 1);
        x.street(1, 2, 5, 1);
        x.street(4, 5, 5, 1);
        x.call(0, 1, 5, 0, 1);
        due("33 at the call", x.plan(1), 0);
        due("34 there", x.planned(), 2);
        x.call(10, 2, 5, 0, 1);
        x.call(10, 0, 5, 0, 1);
        due("33 in the middle", x.plan(1), 10);
        due("34 in the middle", x.planned(), 2);
        due("33 two, the least place", x.plan(2), 5);
        due("34 two, the least place", x.planned(), 3);
        due("33 three", x.plan(3), 0);
        due("33 more than needed", x.plan(6), 0);
        due("34 the least places", x.planned(), 63);
        x.call(10, 5, 0, 0, 1);
        due("33 not reached", x.plan(1), NONE);
        due("34 the latest that told some", x.planned(), 63);
        due("33 two", x.plan(2), 10);
        due("34 two", x.planned(), 2 + 32);
        due("33 can't be", x.plan(0), NONE);
        due("33 can't be", x.plan(7), NONE);
        due("33 can't be", x.plan(-1), NONE);
        x = Checks.with("kind a most 30;shut 0 to 1 from 0 to 99;");
        x.street(0, 1, 5, 1);
        x.street(1, 2, 5, 1);
        x.call(20, 1, 0, 0, 1);
        x.call(20, 1, 0, 0, 1);
        x.call(20, 0, 2, 0, 1);
        due("33 shut", x.plan(1), 5);
        due("34 shut", x.planned(), 2);
    }

    // promise 35
    private static void all() {
        CartFellows x = Checks.with("kind a most 5;kind b most 5;fine f is 1 for all;bar 9;load 9;work 9 rest 9;rate 1 for all;");
        x.street(0, 1, 1, 1);
        x.stand(0);
        x.stand(1);
        x.stand(2);
        for (int i = 0; i < 4; i++) {
            x.told(0, 0, 0, 1, 1, 1, 1, true);
        }
        x.as(3);
        for (int i = 0; i < 5; i++) {
            x.cart(0, 1);
        }
        for (int i = 0; i < 6; i++) {
            x.call(0, 0, 1, 0, 1);
        }
        int[] want = {1, 2, 1, 4, 4, 3, 3, 5, 6};
        for (int what = 0; what < want.length; what++) {
            due("35 all " + what, x.all(what), want[what]);
        }
        due("35 other", x.all(9), NONE);
        due("35 other", x.all(-1), NONE);
    }
}
