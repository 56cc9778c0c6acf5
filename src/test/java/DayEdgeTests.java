/**
 * A test for each sentence of the document that names a boundary case: how a RUN of the DAY goes
 * (Term IV, promises 23 to 25).
 */
public final class DayEdgeTests {
    private static final int NONE = CartFellows.NONE;
    private static final int LEAST = Integer.MIN_VALUE;
    private static final int MOST = Integer.MAX_VALUE;

    private DayEdgeTests() {
    }

    public static void main(String[] args) {
        homeStand();
        most16();
        licenceBits();
        most40();
        minuteOfACall();
        placesOfACall();
        kindOfACall();
        weightOfACall();
        notBarred();
        lineByNumbers();
        licenceHasTheKind();
        weightNotAbove();
        workBelow();
        placesReached();
        restsLongEnough();
        atOnce();
        workAddedUp();
        comesBackFirst();
        endOfTheLine();
        theFirstToCome();
        thoseOfThisMinute();
        elseItWaits();
        toTheEndOfTheDay();
        standFirstThere();
        leastStand();
        standWithOneThatMay();
        firstThatMay();
        fewestFarthings();
        freeSoonest();
        freeLeastNumber();
        freeWholeSums();
        leavesLoadsDrives();
        oneAtATime();
        comeFirst();
        leastCart();
        noneWaitsToLoad();
        nearestStand();
        leastPlaceOfStands();
        carriageOfARun();
        firstOfItsLine();
        wearOfDrives();
        Checks.close("DayEdgeTests");
    }

    private static void by(String words) {
        Checks.by(words);
    }

    private static void due(String what, long got, long want) {
        Checks.due(what, got, want);
    }

    /** A STAND at PLACE 0, PLACE 1 5 minutes off (1 yard); loading takes no time; KINDS a, b, c, d. */
    private static CartFellows pair(String laws) {
        CartFellows x = Checks.with("kind a most 99;kind b most 99;kind c most 99;kind d most 99;load 0;" + laws);
        x.street(0, 1, 5, 1);
        x.stand(0);
        return x;
    }

    /** Calls of KIND a from PLACE 1 to PLACE 0: each takes a cart at the stand 10 minutes. */
    private static void callAt(CartFellows x, int... minutes) {
        for (int minute : minutes) {
            x.call(minute, 1, 0, 0, 1);
        }
    }

    private static void carts(CartFellows x, int home, int... licences) {
        for (int licence : licences) {
            x.cart(home, licence);
        }
    }

    private static void takenBy(CartFellows x, int... carts) {
        for (int call = 0; call < carts.length; call++) {
            due("the cart of call " + call, x.taken(call, 0), carts[call]);
        }
    }

    private static void loadedAt(CartFellows x, int... minutes) {
        for (int call = 0; call < minutes.length; call++) {
            due("the minute of call " + call, x.taken(call, 1), minutes[call]);
        }
    }

    // ---- promises 23, 24

    private static void homeStand() {
        by("23: A cart: its number; NONE if its home is no STAND");
        CartFellows x = new CartFellows();
        int[] homes = {-1, 0, 3, 11, 12, 31, 32, 35, LEAST, MOST};
        for (int home : homes) {
            due("without stands, at " + home, x.cart(home, 1), NONE);
        }
        x.stand(3);
        x.stand(11);
        for (int home : homes) {
            boolean isStand = home == 3 || home == 11;
            due("at " + home, x.cart(home, 1), !isStand ? NONE : home == 3 ? 0 : 1);
        }
        due("two there are", x.all(7), 2);
    }

    private static void most16() {
        by("IV: CARTS, numbered from 0 on (16 at most); 23: NONE if there are 16");
        CartFellows x = pair("");
        x.stand(1);
        for (int cart = 0; cart < 16; cart++) {
            due("cart", x.cart(cart % 2, 1), cart);
        }
        due("a 17th", x.cart(0, 1), NONE);
        due("a 17th elsewhere", x.cart(1, 1), NONE);
        due("16 there are", x.all(7), 16);
        x.run(true);
        due("16 stood", x.day(5), 16);
        due("the last at home", x.cartOf(15, 4), 1);
    }

    private static void licenceBits() {
        by("23: (Bits of a licence that are no KIND's are not looked at.)");
        int[] licences = {0, 1, 2, 3, 16, 17, 256, 257, LEAST, LEAST | 1, MOST, -1, -2, 254, 1 << 30};
        for (int licence : licences) {
            CartFellows x = pair("");
            due("a cart with " + licence, x.cart(0, licence), 0);
            callAt(x, 0);
            due("licensed for kind 0 by " + licence, x.run(true), licence & 1);
        }
        CartFellows x = Checks.with("kind a most 9;kind b most 9;kind c most 9;kind d most 9;kind e most 9;kind f most 9;kind g most 9;kind h most 9;");
        x.street(0, 1, 5, 1);
        x.stand(0);
        x.cart(0, 128);
        x.call(0, 0, 1, 6, 1);
        x.call(0, 0, 1, 7, 1);
        due("the bit of the last kind", x.run(true), 1);
        takenBy(x, NONE, 0);
    }

    private static void most40() {
        by("IV: CALLS of a DAY, numbered from 0 on (40 at most); 24: NONE if there are 40");
        CartFellows x = pair("");
        x.cart(0, 1);
        for (int call = 0; call < 40; call++) {
            due("call", x.call(39 - call, 1, 0, 0, 1), call);
        }
        due("a 41st", x.call(0, 1, 0, 0, 1), NONE);
        due("40 there are", x.all(8), 40);
        due("all are taken", x.run(true), 40);
        due("the last number, the first minute", x.taken(39, 1), 5);
        due("the first number, the last minute", x.taken(0, 1), 395);
    }

    private static void minuteOfACall() {
        by("IV: CALLS: a minute (0 .. 1439)");
        CartFellows x = pair("");
        carts(x, 0, 1, 1);
        int[] wrong = {-1, 1440, LEAST, MOST};
        for (int minute : wrong) {
            due("at " + minute, x.call(minute, 1, 0, 0, 1), NONE);
        }
        due("nothing was done", x.all(8), 0);
        due("at 0", x.call(0, 1, 0, 0, 1), 0);
        due("at 1439", x.call(1439, 1, 0, 0, 1), 1);
        due("both", x.run(true), 2);
        loadedAt(x, 5, 1444);
    }

    private static void placesOfACall() {
        by("24: NONE if something can't be (unlike PLACES)");
        CartFellows x = pair("");
        int[] wrong = {-1, 12, LEAST, MOST};
        for (int place : wrong) {
            due("from " + place, x.call(0, place, 1, 0, 1), NONE);
            due("to " + place, x.call(0, 1, place, 0, 1), NONE);
        }
        for (int place = 0; place < 12; place++) {
            due("to itself " + place, x.call(0, place, place, 0, 1), NONE);
        }
        due("nothing was done", x.all(8), 0);
        due("0 to 11", x.call(0, 0, 11, 0, 1), 0);
        due("11 to 0", x.call(0, 11, 0, 0, 1), 1);
    }

    private static void kindOfACall() {
        by("24: NONE if something can't be (a KIND)");
        CartFellows x = pair("");
        int[] wrong = {-1, 4, 7, 8, LEAST, MOST};
        for (int kind : wrong) {
            due("kind " + kind, x.call(0, 1, 0, kind, 1), NONE);
        }
        due("nothing was done", x.all(8), 0);
        due("the first", x.call(0, 1, 0, 0, 1), 0);
        due("the last", x.call(0, 1, 0, 3, 1), 1);
        Checks.laws(x, "");
        due("without kinds", x.call(0, 1, 0, 0, 1), NONE);
    }

    private static void weightOfACall() {
        by("IV: a WEIGHT (1 .. 999)");
        CartFellows x = Checks.with("kind a most 999;rate weight for all;");
        x.street(0, 1, 5, 1);
        x.stand(0);
        carts(x, 0, 1, 1);
        int[] wrong = {0, -1, 1000, LEAST, MOST};
        for (int weight : wrong) {
            due("weight " + weight, x.call(0, 1, 0, 0, weight), NONE);
        }
        due("nothing was done", x.all(8), 0);
        due("1", x.call(0, 1, 0, 0, 1), 0);
        due("999", x.call(0, 1, 0, 0, 999), 1);
        due("both", x.run(true), 2);
        due("1", x.taken(0, 5), 1);
        due("999", x.taken(1, 5), 999);
        x = Checks.with("kind a most 5;");
        due("above what a cart carries, it is called all the same", x.call(0, 1, 0, 0, 999), 0);
    }

    // ---- Term IV: which carts stand, which MAY

    private static void notBarred() {
        by("IV: carts that are not BARRED (as known) stand at home");
        CartFellows x = pair("fine f is wait for all;bar 4;");
        carts(x, 0, 1, 1, 1);
        callAt(x, 0, 0, 0);
        x.told(0, 0, 0, 1, 0, 0, 5, false);
        x.told(0, 1, 0, 1, 0, 0, 4, false);
        x.told(0, 15, 0, 1, 0, 0, 9, false);
        due("by turns", x.run(true), 3);
        takenBy(x, 1, 2, 1);
        due("two stood", x.day(5), 2);
        x.run(false);
        due("free", x.cartOf(0, 1), 0);
        due("two stood", x.day(5), 2);
        x.as(0);
        x.run(true);
        takenBy(x, 0, 1, 2);
        due("three stood", x.day(5), 3);
        x.as(1);
        x.run(true);
        takenBy(x, 1, 2, 1);
        x.as(NONE);
        x.annul(1);
        x.run(true);
        takenBy(x, 0, 1, 2);
    }

    private static void lineByNumbers() {
        by("IV: in line by numbers");
        CartFellows x = pair("");
        x.stand(1);
        x.cart(1, 1);
        carts(x, 0, 1, 1, 1);
        x.cart(1, 1);
        x.call(0, 0, 1, 0, 1);
        x.call(0, 0, 1, 0, 1);
        x.call(0, 0, 1, 0, 1);
        x.call(0, 0, 1, 0, 1);
        x.call(0, 0, 1, 0, 1);
        due("all", x.run(true), 5);
        takenBy(x, 1, 2, 3, 0, 4);
        for (int call = 0; call < 5; call++) {
            due("each was the first", x.taken(call, 4), 1);
        }
    }

    private static void licenceHasTheKind() {
        by("IV: MAY take a CALL, if its licence has the KIND");
        for (int kind = 0; kind < 4; kind++) {
            CartFellows x = pair("");
            carts(x, 0, 1, 2, 4, 8, 0);
            x.call(0, 1, 0, kind, 1);
            due("one", x.run(true), 1);
            takenBy(x, kind);
            x.run(false);
            takenBy(x, kind);
        }
        CartFellows x = pair("");
        carts(x, 0, 14, 0);
        callAt(x, 0);
        due("none", x.run(true), 0);
        due("none", x.run(false), 0);
    }

    private static void weightNotAbove() {
        by("IV: the WEIGHT is not above the KIND's most");
        CartFellows x = Checks.with("kind a most 50;kind b most 7;");
        x.street(0, 1, 5, 1);
        x.stand(0);
        carts(x, 0, 3, 3, 3, 3);
        int[][] loads = {{0, 50}, {0, 51}, {1, 7}, {1, 8}, {1, 50}, {0, 7}};
        for (int[] load : loads) {
            x.call(0, 1, 0, load[0], load[1]);
        }
        due("as much, or less", x.run(true), 3);
        takenBy(x, 0, NONE, 1, NONE, NONE, 2);
    }

    private static void workBelow() {
        by("IV: its WORK is below what a horse works");
        int[] works = {9, 10, 11, 20, 21};
        int[] taken = {1, 1, 2, 2, 3};
        for (int i = 0; i < works.length; i++) {
            CartFellows x = pair("work " + works[i] + " rest 600;");
            x.cart(0, 1);
            callAt(x, 900, 900, 900, 900);
            due("work " + works[i], x.run(true), taken[i]);
            due("work " + works[i], x.run(false), taken[i]);
        }
    }

    private static void placesReached() {
        by("IV: and both PLACES of the CALL can be reached from there");
        CartFellows x = pair("");
        x.street(2, 3, 5, 1);
        x.cart(0, 1);
        x.call(0, 2, 3, 0, 1);
        x.call(0, 1, 2, 0, 1);
        x.call(0, 2, 1, 0, 1);
        x.call(0, 0, 11, 0, 1);
        x.call(0, 1, 0, 0, 1);
        due("one", x.run(true), 1);
        takenBy(x, NONE, NONE, NONE, NONE, 0);
        x.stand(3);
        x.cart(3, 1);
        due("from the other stand", x.run(true), 2);
        takenBy(x, 1, NONE, NONE, NONE, 0);
        due("free", x.run(false), 2);
        takenBy(x, 1, NONE, NONE, NONE, 0);
        x.street(1, 2, 5, 1);
        due("both by then", x.run(true), 4);
    }

    // ---- Term IV: WORK

    private static void restsLongEnough() {
        by("IV: 0 again when it has stood as long as a horse rests, or longer");
        // back at 10, so rested at 40
        int[] minutes = {11, 39, 40, 41};
        int[] begins = {45, 45, 45, 46};
        for (int i = 0; i < minutes.length; i++) {
            CartFellows x = pair("work 10 rest 30;");
            x.cart(0, 1);
            callAt(x, 0, minutes[i]);
            x.run(true);
            loadedAt(x, 5, begins[i]);
        }
        CartFellows x = pair("work 11 rest 30;");
        x.cart(0, 1);
        // rests from 10 to 39: too short, so the work goes on
        callAt(x, 0, 39, 49);
        x.run(true);
        loadedAt(x, 5, 44, 84);
        x = pair("work 11 rest 30;");
        x.cart(0, 1);
        callAt(x, 0, 40, 50);
        x.run(true);
        loadedAt(x, 5, 45, 55);
        x = pair("work 10 rest 30;");
        x.cart(0, 1);
        callAt(x, 0, 40, 50, 51);
        x.run(true);
        loadedAt(x, 5, 45, 85, 125);
        x = pair("work 11 rest 30;");
        x.cart(0, 1);
        callAt(x, 0, 1000, 1010, 1011);
        x.run(true);
        loadedAt(x, 5, 1005, 1015, 1055);
    }

    private static void atOnce() {
        by("IV: (0: at once)");
        CartFellows x = pair("work 1 rest 0;");
        x.cart(0, 1);
        callAt(x, 0, 0, 0, 0);
        due("all", x.run(true), 4);
        loadedAt(x, 5, 15, 25, 35);
        // a minute's work alone
        x = Checks.with("kind a most 99;load 0;work 1 rest 0;");
        x.street(0, 1, 1, 1);
        x.stand(0);
        x.stand(1);
        x.cart(0, 1);
        for (int call = 0; call < 6; call++) {
            x.call(0, call % 2, 1 - call % 2, 0, 1);
        }
        due("all", x.run(true), 6);
        loadedAt(x, 0, 1, 2, 3, 4, 5);
    }

    private static void workAddedUp() {
        by("IV: WORK: minutes from each time it left a STAND until it was back, added up");
        // 10 and 10: loading, unloading, the way home and a wharf's line count as well
        CartFellows x = Checks.with("kind a most 99;load 3;work 40 rest 600;");
        x.street(0, 1, 5, 1);
        x.street(1, 2, 4, 1);
        x.stand(0);
        x.cart(0, 1);
        x.call(0, 1, 2, 0, 10);
        x.call(0, 1, 2, 0, 10);
        x.call(0, 1, 2, 0, 10);
        // each: 5 + 3 + 4 + 3 + 9 = 24
        due("two", x.run(true), 2 + 1);
        loadedAt(x, 5, 29, 653);
        due("away", x.cartOf(0, 2), 72);
        x = Checks.with("kind a most 99;load 3;work 48 rest 600;");
        x.street(0, 1, 5, 1);
        x.street(1, 2, 4, 1);
        x.stand(0);
        x.cart(0, 1);
        x.call(900, 1, 2, 0, 10);
        x.call(900, 1, 2, 0, 10);
        x.call(900, 1, 2, 0, 10);
        due("48 are not below 48", x.run(true), 2);
        for (int round = 0; round < 3; round++) {
            x = pair("work 10 rest 600;");
            x.cart(0, 1);
            callAt(x, 7, 8);
            for (int run = 0; run <= round; run++) {
                due("in each run anew", x.run(run % 2 == 0), 2);
                loadedAt(x, 12, 622);
            }
        }
    }

    // ---- Term IV: minute by minute

    private static void comesBackFirst() {
        by("IV: Minute by minute: first carts come back to their STANDS");
        CartFellows x = pair("");
        x.cart(0, 1);
        callAt(x, 0, 10, 11, 30);
        x.run(true);
        loadedAt(x, 5, 15, 25, 35);
        due("back at 10", x.taken(0, 7), 10);
        due("it left at 10", x.taken(1, 2), 5);
        x = pair("");
        x.cart(0, 1);
        callAt(x, 0, 9);
        x.run(true);
        due("not back yet at 9", x.taken(1, 2), 6);
    }

    private static void endOfTheLine() {
        by("IV: carts come back, by numbers, each to the end of the line");
        CartFellows x = pair("");
        x.street(0, 2, 10, 1);
        // cart 1 leaves at 0, cart 0 at 10: both are back at 20; cart 2 stands there
        carts(x, 0, 6, 5, 4);
        x.call(0, 2, 0, 0, 1);
        x.call(10, 1, 0, 1, 1);
        x.call(20, 1, 0, 2, 1);
        x.call(20, 1, 0, 2, 1);
        x.call(20, 1, 0, 2, 1);
        due("all", x.run(true), 5);
        takenBy(x, 1, 0, 2, 0, 1);
        due("the first", x.taken(4, 4), 1);
        // cart 1 is back at 19, ahead of cart 0
        x = pair("");
        x.street(0, 2, 9, 1);
        x.street(2, 0, 10, 1);
        carts(x, 0, 6, 5, 4);
        x.call(1, 2, 0, 0, 1);
        x.call(10, 1, 0, 1, 1);
        x.call(20, 1, 0, 2, 1);
        x.call(20, 1, 0, 2, 1);
        x.call(20, 1, 0, 2, 1);
        due("all", x.run(true), 5);
        takenBy(x, 1, 0, 2, 1, 0);
        // a cart of another stand is behind those at home
        x = pair("");
        x.stand(1);
        x.cart(1, 1);
        carts(x, 0, 1, 1);
        x.call(0, 1, 0, 0, 1);
        x.call(9, 0, 1, 0, 1);
        x.call(9, 0, 1, 0, 1);
        x.call(9, 0, 1, 0, 1);
        x.run(true);
        takenBy(x, 0, 1, 2, 0);
    }

    private static void theFirstToCome() {
        by("IV: then CALLS that wait, the first to come first (by minute, then number)");
        CartFellows x = pair("");
        x.cart(0, 1);
        callAt(x, 10, 5, 5, 20, 4, 10);
        x.run(true);
        loadedAt(x, 39, 19, 29, 59, 9, 49);
        x = pair("");
        x.cart(0, 1);
        // call 0 is of the minute at which the cart is back, call 1 waits since 25
        callAt(x, 30, 25, 20);
        x.run(true);
        loadedAt(x, 45, 35, 25);
    }

    private static void thoseOfThisMinute() {
        by("IV: then those of this minute, by numbers");
        CartFellows x = pair("");
        carts(x, 0, 1, 1, 1);
        callAt(x, 7, 7, 7, 7);
        x.run(true);
        takenBy(x, 0, 1, 2, 0);
        loadedAt(x, 12, 12, 12, 22);
        x = pair("");
        x.cart(0, 1);
        callAt(x, 8, 7, 7);
        x.run(true);
        loadedAt(x, 32, 12, 22);
    }

    private static void elseItWaits() {
        by("IV: each is taken by a cart that MAY, if there is some; else it waits");
        CartFellows x = pair("");
        carts(x, 0, 1, 4);
        x.call(0, 1, 0, 1, 1);
        x.call(0, 1, 0, 0, 1);
        x.call(1, 1, 0, 0, 1);
        x.call(2, 1, 0, 2, 1);
        x.call(3, 1, 0, 0, 100);
        x.call(4, 1, 0, 0, 1);
        due("one that waits holds up no other", x.run(true), 4);
        takenBy(x, NONE, 0, 0, 1, NONE, 0);
        loadedAt(x, NONE, 5, 15, 7, NONE, 25);
        due("not taken", x.day(3), 2);
    }

    private static void toTheEndOfTheDay() {
        by("IV: (to the end of the DAY: behind it no cart leaves a STAND)");
        CartFellows x = pair("");
        x.cart(0, 1);
        callAt(x, 1429, 1430);
        due("back at 1439", x.run(true), 2);
        loadedAt(x, 1434, 1444);
        due("its wait", x.taken(1, 2), 14);
        due("free", x.run(false), 2);
        x = pair("");
        x.cart(0, 1);
        callAt(x, 1430, 1430);
        due("back at 1440", x.run(true), 1);
        due("back at 1440, free", x.run(false), 1);
        x = pair("work 1 rest 10;");
        x.cart(0, 1);
        callAt(x, 1419, 1430);
        due("rested at 1439", x.run(true), 2);
        x = pair("work 1 rest 11;");
        x.cart(0, 1);
        callAt(x, 1419, 1430);
        due("rested at 1440", x.run(true), 1);
        x = pair("");
        x.cart(0, 1);
        callAt(x, 1439);
        due("a call of 1439", x.run(true), 1);
        due("back behind the day", x.taken(0, 7), 1449);
        due("minutes away", x.cartOf(0, 2), 10);
    }

    // ---- Term IV: by TURNS

    private static void standFirstThere() {
        by("IV: By TURNS: the STAND from which one would be there first");
        CartFellows x = pair("rate 10 for all;shut 0 to 1 from 100 to 102;shut 0 to 1 from 200 to 203;");
        x.street(2, 1, 7, 1);
        x.stand(2);
        carts(x, 0, 1, 1, 1, 1);
        carts(x, 2, 1, 1, 1, 1);
        x.call(0, 1, 2, 0, 1);
        x.call(101, 1, 2, 0, 1);
        x.call(100, 1, 2, 0, 1);
        x.call(200, 1, 2, 0, 1);
        x.run(true);
        // at 100 by way of the wait 108, from 2 107; at 101 108 from both; at 200 209 against 207
        takenBy(x, 0, 1, 4, 5);
        due("not the one with fewer farthings", x.run(true), 4);
    }

    private static void leastStand() {
        by("IV: (of several the least PLACE)");
        CartFellows x = Checks.with("kind a most 9;load 0;");
        x.street(9, 1, 5, 1);
        x.street(3, 1, 5, 1);
        x.street(7, 1, 5, 1);
        x.stand(9);
        x.stand(7);
        x.stand(3);
        x.cart(9, 1);
        x.cart(7, 1);
        x.cart(3, 1);
        x.call(0, 1, 9, 0, 1);
        x.call(0, 1, 9, 0, 1);
        x.call(0, 1, 9, 0, 1);
        x.run(true);
        takenBy(x, 2, 1, 0);
        x.run(false);
        takenBy(x, 0, 1, 2);
    }

    private static void standWithOneThatMay() {
        by("IV: of those that have one that MAY");
        CartFellows x = pair("work 10 rest 600;");
        x.street(2, 1, 9, 1);
        x.stand(2);
        carts(x, 0, 2, 1);
        x.cart(2, 1);
        x.call(0, 1, 0, 0, 1);
        x.call(20, 1, 0, 0, 1);
        x.call(30, 1, 0, 0, 100);
        x.call(30, 1, 0, 1, 1);
        x.run(true);
        // at 20 cart 1 has no work left, cart 0 no licence
        takenBy(x, 1, 2, NONE, 0);
    }

    private static void firstThatMay() {
        by("IV: and of its line the first that MAY");
        CartFellows x = pair("");
        carts(x, 0, 2, 3, 1, 2);
        x.call(0, 1, 0, 0, 1);
        x.call(0, 1, 0, 0, 1);
        x.call(0, 1, 0, 1, 1);
        x.call(0, 1, 0, 1, 1);
        x.run(true);
        takenBy(x, 1, 2, 0, 3);
        int[] turns = {0, 0, 1, 1};
        for (int call = 0; call < 4; call++) {
            due("turn of call " + call, x.taken(call, 4), turns[call]);
        }
    }

    // ---- Term IV: FREE

    private static void fewestFarthings() {
        by("IV: FREE: of all that MAY the cart with the fewest FARTHINGS earned so far that day");
        CartFellows x = pair("rate weight for all;");
        x.street(2, 1, 50, 1);
        x.stand(2);
        carts(x, 0, 1, 1);
        x.cart(2, 1);
        x.call(0, 1, 0, 0, 9);
        x.call(0, 1, 0, 0, 8);
        x.call(50, 1, 0, 0, 7);
        x.call(500, 1, 0, 0, 1);
        x.call(600, 1, 0, 0, 1);
        x.call(700, 1, 0, 0, 1);
        x.call(800, 1, 0, 0, 1);
        x.run(false);
        // 9, 8, then the far one 7, then the fewest: 7 + 1, of 8 and 8 the least number, 9 and 8, three of 9
        takenBy(x, 0, 1, 2, 2, 1, 2, 0);
        x.run(true);
        due("by turns the line counts", x.taken(2, 0), 0);
        x.run(false);
        due("that day: anew", x.taken(0, 0), 0);
    }

    private static void freeSoonest() {
        by("IV: of several that which would be there first");
        CartFellows x = pair("rate 10 for all;");
        x.street(2, 1, 4, 1);
        x.street(3, 1, 3, 1);
        x.stand(2);
        x.stand(3);
        x.cart(0, 1);
        x.cart(2, 1);
        x.cart(3, 1);
        x.call(0, 1, 0, 0, 1);
        x.call(0, 1, 0, 0, 1);
        x.call(0, 1, 0, 0, 1);
        x.run(false);
        takenBy(x, 2, 1, 0);
    }

    private static void freeLeastNumber() {
        by("IV: of several the least number");
        CartFellows x = pair("rate 10 for not weight=1;");
        carts(x, 0, 1, 1);
        // cart 0 goes for nothing and is behind cart 1 in line: it takes the next one all the same
        callAt(x, 0, 50, 100);
        x.run(false);
        takenBy(x, 0, 0, 0);
        due("its turn", x.taken(0, 4), 1);
        due("not its turn", x.taken(1, 4), 0);
        x.run(true);
        takenBy(x, 0, 1, 0);
        x = pair("");
        x.street(2, 1, 5, 1);
        x.stand(2);
        x.cart(2, 1);
        x.cart(0, 1);
        x.call(0, 1, 0, 0, 1);
        x.run(false);
        due("not the least place", x.taken(0, 0), 0);
        x.run(true);
        due("by turns the least place", x.taken(0, 0), 1);
    }

    private static void freeWholeSums() {
        by("IV: (FREE goes by the whole sums)");
        StringBuilder laws = new StringBuilder();
        for (int i = 0; i < 20; i++) {
            laws.append("rate 99999*101 for all;");
        }
        CartFellows x = pair(laws.toString());
        carts(x, 0, 1, 1);
        for (int call = 0; call < 30; call++) {
            callAt(x, call * 20);
        }
        x.run(false);
        // 200000000 each time: they take turns, also above 2000000000 and where an int would wrap
        for (int call = 0; call < 30; call++) {
            due("the cart of call " + call, x.taken(call, 0), call % 2);
        }
    }

    // ---- Term IV: what a cart does

    private static void leavesLoadsDrives() {
        by("IV: It leaves then, drives to the CALL's PLACE, loads, drives to the other PLACE, unloads, and drives to the STAND");
        CartFellows x = Checks.with("kind a most 99;load 2;shut 1 to 2 from 20 to 29;shut 2 to 1 from 44 to 60;");
        x.street(0, 1, 5, 3);
        x.street(1, 2, 7, 10);
        x.stand(0);
        x.cart(0, 1);
        x.call(10, 1, 2, 0, 25);
        x.run(true);
        // there 15, loaded 21, enters at 30, there 37, unloaded 43, over the second street till 50
        due("there", x.taken(0, 1), 15);
        due("unloaded", x.taken(0, 6), 43);
        due("back", x.taken(0, 7), 55);
        due("away", x.cartOf(0, 2), 45);
        x.call(0, 1, 2, 0, 1);
        x.run(true);
        // call 1: there 5, loaded 7, there 14, unloaded 16, back 28; call 0: there 33, loaded 39, there 46, unloaded 52, shut
        due("there", x.taken(0, 1), 33);
        due("unloaded", x.taken(0, 6), 52);
        due("back", x.taken(0, 7), 73);
        due("wait", x.taken(0, 2), 23);
    }

    /** Three carts that unload at PLACE 2, 5 minutes each 10, from PLACES 1 (4 minutes off) and 3 (6): when they are done. */
    private static CartFellows atWharf(boolean isWharf, int... calls) {
        CartFellows x = Checks.with("kind a most 99;load 5;");
        x.street(1, 2, 4, 1);
        x.street(3, 2, 6, 1);
        x.stand(1);
        x.stand(3);
        if (isWharf) {
            x.wharf(2, true);
        }
        for (int i = 0; i < calls.length; i += 4) {
            x.cart(calls[i], 1);
            x.call(calls[i + 1], calls[i], calls[i + 2], 0, calls[i + 3]);
        }
        x.run(true);
        return x;
    }

    private static void unloadedAt(CartFellows x, int... minutes) {
        for (int call = 0; call < minutes.length; call++) {
            due("call " + call + " unloaded", x.taken(call, 6), minutes[call]);
        }
    }

    private static void oneAtATime() {
        by("IV: unloads (at a WHARF one cart at a time)");
        int[] together = {1, 0, 2, 10, 1, 0, 2, 10, 1, 0, 2, 10};
        unloadedAt(atWharf(false, together), 14, 14, 14);
        unloadedAt(atWharf(true, together), 14, 19, 24);
        int[] behind = {1, 0, 2, 10, 1, 5, 2, 10};
        unloadedAt(atWharf(true, behind), 14, 19);
        int[] waits = {1, 0, 2, 10, 1, 4, 2, 10};
        unloadedAt(atWharf(true, waits), 14, 19);
        int[] later = {1, 0, 2, 10, 1, 6, 2, 10};
        unloadedAt(atWharf(true, later), 14, 20);
        CartFellows x = atWharf(true, together);
        due("it goes home later", x.taken(2, 7), 28);
        due("its work", x.cartOf(2, 2), 28);
        x.wharf(2, false);
        x.wharf(1, true);
        x.run(true);
        unloadedAt(x, 14, 14, 14);
    }

    private static void comeFirst() {
        by("IV: those that come first");
        // cart 0 comes at 5 + 5 + 6 = 16, cart 1 at 16, 15, 45 + 4 = 49
        unloadedAt(atWharf(true, 3, 5, 2, 10, 1, 7, 2, 10), 21, 26);
        unloadedAt(atWharf(true, 3, 5, 2, 10, 1, 6, 2, 10), 25, 20);
        unloadedAt(atWharf(true, 3, 5, 2, 10, 1, 0, 2, 90), 21, 94);
        // the one that left first comes last
        unloadedAt(atWharf(true, 3, 0, 2, 20, 1, 6, 2, 10), 30, 20);
        unloadedAt(atWharf(true, 1, 8, 2, 10, 3, 0, 2, 20, 1, 2, 2, 10), 31, 26, 16);
    }

    private static void leastCart() {
        by("IV: of one minute the least cart first");
        // both come at 11
        unloadedAt(atWharf(true, 3, 0, 2, 10, 1, 2, 2, 10), 16, 21);
        unloadedAt(atWharf(true, 1, 2, 2, 10, 3, 0, 2, 10), 16, 21);
        // both come while it is not free: cart 1 for call 1, cart 2 for call 0
        unloadedAt(atWharf(true, 1, 2, 2, 10, 3, 0, 2, 10, 1, 0, 2, 10), 24, 19, 14);
    }

    private static void noneWaitsToLoad() {
        by("IV: unloads (at a WHARF ...), not loads");
        CartFellows x = Checks.with("kind a most 99;load 5;");
        x.street(1, 2, 4, 1);
        x.stand(1);
        x.wharf(1, true);
        x.cart(1, 1);
        x.cart(1, 1);
        x.call(0, 1, 2, 0, 10);
        x.call(0, 1, 2, 0, 10);
        x.run(true);
        unloadedAt(x, 14, 14);
        loadedAt(x, 0, 0);
    }

    private static void nearestStand() {
        by("IV: and drives to the STAND at which it is first");
        CartFellows x = pair("shut 1 to 0 from 200 to 204;");
        x.street(1, 2, 8, 1);
        x.stand(2);
        x.cart(0, 1);
        x.call(0, 0, 1, 0, 1);
        x.run(true);
        due("the nearest", x.cartOf(0, 4), 0);
        due("back", x.taken(0, 7), 10);
        x.call(196, 0, 1, 0, 1);
        x.run(true);
        due("the first, while the way is shut", x.cartOf(0, 4), 2);
        due("back", x.taken(1, 7), 209);
        x.call(300, 0, 2, 0, 1);
        x.run(true);
        due("where it unloads", x.cartOf(0, 4), 2);
        due("at once", x.taken(2, 7), x.taken(2, 6));
    }

    private static void leastPlaceOfStands() {
        by("IV: (of several the least PLACE) at which it is");
        CartFellows x = Checks.with("kind a most 9;load 0;");
        x.street(1, 9, 5, 1);
        x.street(1, 4, 5, 1);
        x.street(1, 6, 5, 1);
        x.stand(9);
        x.stand(6);
        x.cart(9, 1);
        x.call(0, 9, 1, 0, 1);
        x.run(true);
        due("of 9 and 6", x.cartOf(0, 4), 6);
        x.stand(4);
        x.run(true);
        due("of 9, 6 and 4", x.cartOf(0, 4), 4);
    }

    private static void carriageOfARun() {
        by("IV: Its CARRIAGE: YARDS and WEIGHT of the loaded DRIVE, MINUTE at which it began to load, WAIT from the CALL's minute till then");
        CartFellows x = Checks.with("kind a most 99;load 9;rate yards for is a;rate weight*100 for all;rate minute*10000 for minute<90;");
        x.street(0, 1, 5, 60);
        x.street(1, 2, 7, 30);
        x.stand(0);
        x.cart(0, 1);
        x.call(0, 1, 2, 0, 12);
        x.call(4, 0, 1, 0, 1);
        x.run(true);
        due("yards", x.taken(0, 3), 30);
        due("minute", x.taken(0, 1), 5);
        due("wait", x.taken(0, 2), 5);
        due("rate", x.taken(0, 5), 30 + 1200 + 50000);
        // 5 + 18 + 7 + 18 + 12 = 60: back at 60
        due("yards", x.taken(1, 3), 60);
        due("it begins where it stands", x.taken(1, 1), 60);
        due("wait", x.taken(1, 2), 56);
        due("rate", x.taken(1, 5), 60 + 100 + 600000);
    }

    private static void firstOfItsLine() {
        by("IV: TURN: whether it was the first of the line at its STAND");
        CartFellows x = pair("");
        x.stand(1);
        x.cart(1, 2);
        carts(x, 0, 2, 1, 3);
        x.call(0, 0, 1, 0, 1);
        x.call(0, 0, 1, 1, 1);
        x.call(0, 0, 1, 1, 1);
        x.run(true);
        takenBy(x, 2, 1, 3);
        due("one ahead of it has no licence", x.taken(0, 4), 0);
        due("the first", x.taken(1, 4), 1);
        due("the first, since the others left", x.taken(2, 4), 1);
        x.run(false);
        takenBy(x, 2, 1, 3);
        due("free likewise", x.taken(0, 4), 0);
        due("free likewise", x.taken(1, 4), 1);
    }

    private static void wearOfDrives() {
        by("IV: WEAR of a STREET: for each DRIVE through it its YARDS times 5; if it was loaded, its YARDS times the sum of 5 and the WEIGHT; of a cart: by its DRIVES");
        CartFellows x = Checks.with("kind a most 999;load 0;");
        x.street(0, 1, 5, 100);
        x.street(1, 2, 7, 10);
        x.street(2, 3, 7, 1);
        x.street(3, 4, 7, 1);
        x.stand(0);
        carts(x, 0, 1, 1, 1);
        x.call(0, 1, 2, 0, 1);
        x.call(0, 1, 3, 0, 999);
        x.run(true);
        due("empty there and back, both", x.wear(0), 100 * 5 * 4);
        due("loaded there, empty back", x.wear(1), 10 * (6 + 5) + 10 * (1004 + 5));
        due("the second's end", x.wear(2), 1004 + 5);
        due("none", x.wear(3), 0);
        due("cart 0", x.cartOf(0, 3), 1000 + 110);
        due("cart 1", x.cartOf(1, 3), 1000 + 10090 + 1009);
        due("cart 2", x.cartOf(2, 3), 0);
        due("all", x.day(4), 1110 + 12099);
        x.run(true);
        due("a run anew", x.wear(0), 2000);
        x = Checks.with("kind a most 999;");
        for (int place = 0; place < 11; place++) {
            x.street(place, place + 1, 1, 100);
        }
        x.stand(0);
        carts(x, 0, 1, 1, 1, 1, 1, 1, 1, 1, 1, 1, 1, 1, 1, 1, 1, 1);
        for (int call = 0; call < 40; call++) {
            x.call(0, 0, 11, 0, 999);
        }
        due("all", x.run(true), 40);
        due("the greatest", x.day(4), 40 * 1100 * (1004 + 5));
        due("the greatest of a street", x.wear(10), 40 * 100 * (1004 + 5));
    }
}
