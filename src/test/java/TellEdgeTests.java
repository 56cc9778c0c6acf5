/**
 * A test for each sentence of the document that names a boundary case: what is told of a RUN, costs,
 * gains, THE STANDS for some, and all (Term IV, promises 25 to 35).
 */
public final class TellEdgeTests {
    private static final int NONE = CartFellows.NONE;
    private static final int LEAST = Integer.MIN_VALUE;
    private static final int MOST = Integer.MAX_VALUE;
    private static final int NO_GAINS = -2000000001;
    private static final int MOST_TOLD = 2000000000;

    private TellEdgeTests() {
    }

    public static void main(String[] args) {
        aheadOfAny();
        callsTaken();
        runOfNothing();
        asItWasThen();
        latestRun();
        asManyAsCanBe();
        fewerThanAhead();
        ofACall();
        ofNoCall();
        ofACart();
        ofABarredCart();
        ofNoCart();
        ofTheDay();
        ofNoDay();
        ofAStreet();
        toldAsMost();
        costInParts();
        restsAndNumbers();
        noWear();
        noCost();
        gainsMoreOrLess();
        gainsAsTold();
        latestRunStays();
        noGains();
        bookByCalls();
        bookUpTo200();
        bookOnce();
        bookOfNone();
        plansOfSix();
        leastSum();
        leastPlace();
        fromTheNearest();
        noPlan();
        latestPlan();
        ofAll();
        Checks.close("TellEdgeTests");
    }

    private static void by(String words) {
        Checks.by(words);
    }

    private static void due(String what, long got, long want) {
        Checks.due(what, got, want);
    }

    /** A STAND at PLACE 0, PLACE 1 5 minutes off (1 yard); loading takes no time. */
    private static CartFellows pair(String laws) {
        CartFellows x = Checks.with("kind a most 99;load 0;" + laws);
        x.street(0, 1, 5, 1);
        x.stand(0);
        return x;
    }

    /** Two carts; calls 0 and 2 are taken, call 1 is not. */
    private static CartFellows ran() {
        CartFellows x = pair("rate 7 for all;rate 100 for weight=3;");
        x.cart(0, 1);
        x.cart(0, 1);
        x.call(20, 1, 0, 0, 2);
        x.call(0, 2, 0, 0, 1);
        x.call(4, 0, 1, 0, 3);
        due("taken", x.run(true), 2);
        return x;
    }

    // ---- promise 25

    private static void aheadOfAny() {
        by("26 to 30, 32: NONE ahead of any");
        CartFellows x = pair("");
        x.cart(0, 1);
        x.call(0, 0, 1, 0, 1);
        for (int what = 0; what <= 7; what++) {
            due("taken " + what, x.taken(0, what), NONE);
            due("cartOf " + what, x.cartOf(0, what), NONE);
            due("day " + what, x.day(what), NONE);
        }
        due("wear", x.wear(0), NONE);
        due("part", x.part(10, 0), NONE);
        due("part of nothing", x.part(0, 0), NONE);
        due("book", x.book(), NONE);
        due("gains is no run that is told", x.gains(0), 0);
        due("day", x.day(0), NONE);
        due("taken", x.taken(0, 0), NONE);
        due("book", x.book(), NONE);
        x.run(true);
        due("then there is one", x.day(0), 0);
        due("then there is one", x.taken(0, 0), 0);
    }

    private static void callsTaken() {
        by("25: A RUN by TURNS (or FREE): how many CALLS were taken");
        CartFellows x = pair("");
        due("no cart, no call", x.run(true), 0);
        x.cart(0, 1);
        due("no call", x.run(true), 0);
        x.call(0, 0, 1, 0, 1);
        due("one", x.run(true), 1);
        due("one, free", x.run(false), 1);
        x.call(0, 0, 2, 0, 1);
        due("one of two", x.run(true), 1);
        x.call(0, 1, 0, 0, 1);
        due("two of three", x.run(false), 2);
        for (int call = 3; call < 40; call++) {
            x.call(0, 1, 0, 0, 1);
        }
        due("all but one", x.run(true), 39);
    }

    private static void runOfNothing() {
        by("25: A RUN (without carts, CALLS, BY-LAWS)");
        CartFellows x = new CartFellows();
        due("taken", x.run(true), 0);
        for (int what = 0; what <= 5; what++) {
            due("day " + what, x.day(what), 0);
        }
        due("no call", x.taken(0, 0), NONE);
        due("no cart", x.cartOf(0, 0), NONE);
        due("no street", x.wear(0), NONE);
        due("no cart's part", x.part(10, 0), NONE);
        due("nothing for the book", x.book(), 0);
        x = pair("");
        x.call(0, 0, 1, 0, 1);
        due("without carts", x.run(true), 0);
        due("not taken", x.day(3), 1);
        due("none stood", x.day(5), 0);
    }

    private static void asItWasThen() {
        by("25: (What is told of it is by all as it was then.)");
        CartFellows x = ran();
        x.street(0, 2, 1, 1);
        x.stand(1);
        x.cart(1, 1);
        x.call(0, 0, 1, 0, 1);
        x.wharf(1, true);
        x.told(0, 0, 0, 1, 1, 1, 1, true);
        x.as(0);
        due("not taken then", x.taken(1, 0), NONE);
        due("a cart", x.taken(0, 0), 1);
        due("no such call then", x.taken(3, 0), NONE);
        due("no such cart then", x.cartOf(2, 0), NONE);
        due("no such cart then", x.part(0, 2), NONE);
        due("no such street then", x.wear(1), NONE);
        due("carts that stood", x.day(5), 2);
        due("calls not taken", x.day(3), 1);
        due("its stand", x.cartOf(0, 4), 0);
        due("all of a cost", x.part(100, 0) + x.part(100, 1), 100);
        due("for the book", x.book(), 2);
        due("anew", x.run(true), 4);
        due("such a call", x.taken(3, 0), 1);
        due("such a cart", x.cartOf(2, 1), 1);
        due("such a street", x.wear(1) > 0 ? 1 : 0, 1);
    }

    private static void latestRun() {
        by("26: Of a CALL in the latest RUN");
        CartFellows x = pair("");
        x.street(2, 1, 9, 1);
        x.stand(2);
        x.cart(0, 1);
        x.cart(2, 1);
        x.call(0, 1, 0, 0, 1);
        x.call(50, 1, 2, 0, 1);
        x.call(100, 1, 2, 0, 1);
        x.run(false);
        int free = x.taken(1, 0);
        x.run(true);
        due("free", free, 0);
        due("by turns", x.cartOf(0, 1), 2);
        due("by turns", x.cartOf(1, 1), 1);
        x.run(false);
        due("free again", x.taken(1, 0), free);
        Checks.laws(x, "load 5;kind a most 99;x");
        due("by-laws with a fault leave it", x.taken(1, 0), free);
    }

    private static void asManyAsCanBe() {
        by("25 to 32: of 24 STREETS, 6 STANDS, 16 carts, 40 CALLS");
        CartFellows x = Checks.with("kind a most 99;load 0;rate 10 for all;");
        for (int street = 0; street < 24; street++) {
            x.street(street % 12, (street + 1) % 12, 1, 1);
        }
        for (int stand = 0; stand < 6; stand++) {
            x.stand(2 * stand + 1);
        }
        for (int cart = 0; cart < 16; cart++) {
            x.cart(2 * (cart % 6) + 1, 1);
        }
        for (int call = 0; call < 40; call++) {
            x.call(30 * call, call % 12, (call + 1) % 12, 0, 1);
        }
        due("all are taken", x.run(true), 40);
        int[] day = {400, 20, 1, 0, x.day(4), 16};
        for (int what = 0; what <= 5; what++) {
            due("day " + what, x.day(what), day[what]);
        }
        int ofCarts = 0;
        int ofStreets = 0;
        int parts = 0;
        for (int cart = 0; cart < 16; cart++) {
            ofCarts += x.cartOf(cart, 3);
            parts += x.part(999999, cart);
        }
        for (int street = 0; street < 24; street++) {
            ofStreets += x.wear(street);
        }
        due("wear of all carts", ofCarts, x.day(4));
        due("wear of all streets", ofStreets, x.day(4));
        due("all of a cost", parts, 999999);
        for (int what = 0; what <= 7; what++) {
            due("a 41st call", x.taken(40, what), NONE);
            due("a 17th cart", x.cartOf(16, what), NONE);
        }
        due("a 25th street", x.wear(24), NONE);
        due("a 17th cart", x.part(10, 16), NONE);
        due("a 17th cart", x.gains(16), NO_GAINS);
        due("the last call", x.taken(39, 1), 30 * 39 + (39 % 12 % 2 == 1 ? 0 : 1));
        due("into the book", x.book(), 40);
        // places 0 to 3 are called from once more than others: they, and 6 and 9 with two neighbours each
        due("the plan of six", x.plan(6), 6 * 3);
        due("its places", x.planned(), 15 + (1 << 6) + (1 << 9));
        int gains = x.gains(15);
        int byTurns = x.cartOf(15, 0);
        due("free", x.run(false), 40);
        due("the 16th cart", gains, byTurns - x.cartOf(15, 0));
    }

    private static void fewerThanAhead() {
        by("5, 26 to 32: there was none such (in a RUN under other BY-LAWS, with fewer carts and CALLS)");
        CartFellows x = pair("rate 7 for all;");
        for (int i = 0; i < 5; i++) {
            x.cart(0, 1);
            x.call(10 * i, 0, 1, 0, 9);
        }
        due("five", x.run(true), 5);
        Checks.laws(x, "kind a most 99;load 0;rate 7 for all;");
        x.cart(0, 1);
        x.call(0, 0, 1, 0, 1);
        x.call(0, 0, 2, 0, 1);
        due("one", x.run(true), 1);
        int[] day = {7, 0, 0, 1, 11, 1};
        for (int what = 0; what <= 5; what++) {
            due("day " + what, x.day(what), day[what]);
        }
        for (int i = 1; i < 5; i++) {
            due("call " + i, x.taken(i, 0), NONE);
            due("cart " + i, x.cartOf(i, 1), NONE);
            due("part of cart " + i, x.part(10, i), NONE);
        }
        due("wear", x.wear(0), 11);
        due("all of it", x.part(10, 0), 10);
        due("into the book", x.book(), 1);
        due("acts", x.all(4), 1);
    }

    private static void ofACall() {
        by("26: 0 its cart, 1 MINUTE, 2 WAIT, 3 YARDS, 4 TURN, 5 RATE, 6 the minute at which it was unloaded, 7 that at which the cart was back");
        CartFellows x = Checks.with("kind a most 99;load 2;rate yards*10+turn for all;");
        x.street(0, 1, 5, 3);
        x.street(1, 2, 7, 10);
        x.stand(0);
        x.cart(0, 0);
        x.cart(0, 1);
        x.call(10, 1, 2, 0, 25);
        x.call(11, 0, 1, 0, 1);
        x.run(true);
        int[] first = {1, 15, 5, 10, 0, 100, 34, 46};
        int[] second = {1, 46, 35, 3, 0, 30, 55, 60};
        for (int what = 0; what <= 7; what++) {
            due("what " + what, x.taken(0, what), first[what]);
            due("of the other, what " + what, x.taken(1, what), second[what]);
        }
        due("not at minute 0 alone", x.taken(1, 1), 46);
    }

    private static void ofNoCall() {
        by("26: NONE if it was not taken, there was none such, or for others");
        CartFellows x = ran();
        int[] others = {-1, 8, 9, LEAST, MOST};
        for (int what : others) {
            due("what " + what, x.taken(0, what), NONE);
            due("of one not taken, what " + what, x.taken(1, what), NONE);
        }
        int[] none = {-1, 3, 39, 40, LEAST, MOST};
        for (int what = 0; what <= 7; what++) {
            due("not taken, what " + what, x.taken(1, what), NONE);
            for (int call : none) {
                due("call " + call + ", what " + what, x.taken(call, what), NONE);
            }
        }
        due("the first", x.taken(0, 1), 25);
        due("the last", x.taken(2, 1), 4);
    }

    private static void ofACart() {
        by("27: Of a cart in it: 0 FARTHINGS, 1 CALLS taken, 2 minutes away from STANDS in all, 3 WEAR, 4 the STAND at which it is at last");
        CartFellows x = ran();
        // call 2 by cart 0: 0 to 1 and back; call 0 by cart 0, back since 14, behind cart 1: so by cart 1
        int[] zero = {107, 1, 10, 8 + 5, 0};
        int[] one = {7, 1, 10, 5 + 7, 0};
        x.cart(0, 1);
        x.run(true);
        for (int what = 0; what <= 4; what++) {
            due("cart 0, what " + what, x.cartOf(0, what), zero[what]);
            due("cart 1, what " + what, x.cartOf(1, what), one[what]);
            due("a cart that took none, what " + what, x.cartOf(2, what), 0);
        }
        x.stand(1);
        x.cart(1, 0);
        x.run(true);
        due("to the other stand and back", x.cartOf(0, 4), 0);
        due("minutes away", x.cartOf(0, 2), 5 + 5);
        due("it stands where it stood", x.cartOf(3, 4), 1);
        x = pair("");
        x.stand(1);
        x.cart(0, 1);
        x.call(1439, 0, 1, 0, 1);
        x.run(true);
        due("at last at the other stand", x.cartOf(0, 4), 1);
        due("minutes away behind the day", x.cartOf(0, 2), 5);
    }

    private static void ofABarredCart() {
        by("27: (one that was BARRED: 0, 0, 0, 0, NONE)");
        CartFellows x = pair("rate 7 for all;fine f is wait for all;bar 0;");
        x.stand(1);
        x.cart(1, 1);
        x.cart(1, 1);
        x.call(0, 0, 1, 0, 1);
        x.run(true);
        due("not barred yet", x.cartOf(0, 1), 1);
        x.told(0, 0, 0, 1, 0, 0, 1, true);
        int[] barred = {0, 0, 0, 0, NONE};
        due("as it was then", x.cartOf(0, 4), 1);
        x.run(true);
        for (int what = 0; what <= 4; what++) {
            due("what " + what, x.cartOf(0, what), barred[what]);
        }
        due("the other", x.cartOf(1, 0), 7);
        due("others", x.cartOf(0, 5), NONE);
        due("it pays nothing", x.part(1000000, 0), 0);
        x.as(0);
        due("as it was then", x.cartOf(0, 4), NONE);
    }

    private static void ofNoCart() {
        by("27: NONE if there was none such, or for others");
        CartFellows x = ran();
        int[] none = {-1, 2, 15, 16, LEAST, MOST};
        for (int cart : none) {
            for (int what = 0; what <= 4; what++) {
                due("cart " + cart + ", what " + what, x.cartOf(cart, what), NONE);
            }
        }
        int[] others = {-1, 5, 6, LEAST, MOST};
        for (int what : others) {
            due("what " + what, x.cartOf(0, what), NONE);
        }
    }

    private static void ofTheDay() {
        by("28: Of all in it: 0 FARTHINGS, 1 the sum of WAITS, 2 the greatest WAIT, 3 CALLS not taken, 4 WEAR, 5 carts that stood");
        CartFellows x = ran();
        int[] want = {114, 5, 5, 1, 13 + 12, 2};
        for (int what = 0; what <= 5; what++) {
            due("what " + what, x.day(what), want[what]);
        }
        x = pair("");
        x.cart(0, 1);
        x.call(0, 0, 2, 0, 1);
        due("no waits, none taken", x.run(true) + x.day(1) + x.day(2), 0);
        x.call(0, 0, 1, 0, 1);
        due("a wait of 0", x.run(true) + x.day(1) + x.day(2), 1);
        x = ran();
        x.call(20, 1, 0, 0, 1);
        x.call(20, 1, 0, 0, 1);
        x.run(true);
        // waits of 5, 0, 5, and of 15 for a cart that is back
        int[] more = {128, 25, 15, 1, 25 + 11 + 11, 2};
        for (int what = 0; what <= 5; what++) {
            due("what " + what, x.day(what), more[what]);
        }
    }

    private static void ofNoDay() {
        by("28: NONE for others");
        CartFellows x = ran();
        int[] others = {-1, 6, 7, LEAST, MOST};
        for (int what : others) {
            due("what " + what, x.day(what), NONE);
        }
    }

    private static void ofAStreet() {
        by("29: WEAR of a STREET in it; NONE if there was none such");
        CartFellows x = ran();
        x.street(0, 1, 5, 1);
        int[] none = {-1, 1, 23, 24, LEAST, MOST};
        for (int street : none) {
            due("street " + street, x.wear(street), NONE);
        }
        due("the street", x.wear(0), 25);
        while (x.all(0) < 24) {
            x.street(3, 4, 1, 1);
        }
        x.run(true);
        due("not worn", x.wear(23), 0);
        due("the least number wears", x.wear(0), 25);
        due("of like ones the other does not", x.wear(1), 0);
        due("no 25th", x.wear(24), NONE);
    }

    /** RATE of 200000000, more by the WAIT less 5, less by 1 for a WEIGHT of 7. */
    private static CartFellows dear() {
        StringBuilder laws = new StringBuilder("rate wait-5 for all;rate 0-1 for weight=7;");
        for (int i = 0; i < 20; i++) {
            laws.append("rate 10000*1000 for all;");
        }
        return pair(laws.toString());
    }

    private static void toldAsMost() {
        by("IV: FARTHINGS of a cart, and of all, are told as 2000000000, if they are above that");
        int[][] lastCalls = {{7, 0}, {1, 0}, {1, 1}};
        int[] sums = {MOST_TOLD - 1, MOST_TOLD, MOST_TOLD};
        for (int i = 0; i < 3; i++) {
            CartFellows x = dear();
            x.cart(0, 1);
            for (int call = 0; call < 9; call++) {
                x.call(call * 20, 1, 0, 0, 1);
            }
            x.run(true);
            due("below", x.cartOf(0, 0), 1800000000);
            // the last call is one minute late, or not
            x.call(200, 1, 0, 0, lastCalls[i][0]);
            if (lastCalls[i][1] == 1) {
                x.call(191, 1, 0, 0, 7);
            }
            x.run(true);
            due("of a cart " + i, x.cartOf(0, 0), sums[i]);
            due("of all " + i, x.day(0), sums[i]);
        }
        CartFellows x = dear();
        x.cart(0, 1);
        x.cart(0, 1);
        for (int call = 0; call < 40; call++) {
            x.call(call * 20, 1, 0, 0, 1);
        }
        x.run(true);
        due("each", x.cartOf(0, 0), MOST_TOLD);
        due("each", x.cartOf(1, 0), MOST_TOLD);
        due("of all, far above", x.day(0), MOST_TOLD);
        x = dear();
        for (int cart = 0; cart < 8; cart++) {
            x.cart(0, 1);
        }
        for (int call = 0; call < 16; call++) {
            x.call(call * 20, 1, 0, 0, 1);
        }
        x.run(true);
        due("of one below", x.cartOf(7, 0), 400000000);
        due("of all above", x.day(0), MOST_TOLD);
    }

    // ---- promise 30

    /** Carts that wear 10 and a WEIGHT each, or nothing. */
    private static CartFellows wearing(int... weights) {
        CartFellows x = pair("");
        for (int weight : weights) {
            x.cart(0, weight > 0 ? 1 : 0);
            if (weight > 0) {
                x.call(0, 0, 1, 0, weight);
            }
        }
        x.run(true);
        return x;
    }

    private static void parts(CartFellows x, int cost, int... want) {
        for (int cart = 0; cart < want.length; cart++) {
            due("cart " + cart + " of " + cost, x.part(cost, cart), want[cart]);
        }
    }

    private static void costInParts() {
        by("IV: A COST is parted among carts by WEAR: floor(COST times own / all)");
        CartFellows x = wearing(1, 2, 3);
        // 11, 12, 13 of 36
        parts(x, 36, 11, 12, 13);
        parts(x, 72, 22, 24, 26);
        parts(x, 0, 0, 0, 0);
        parts(x, 36000, 11000, 12000, 13000);
        parts(x, 999972, 305547, 333324, 361101);
        x = wearing(5);
        parts(x, 0, 0);
        parts(x, 1, 1);
        parts(x, 1000000, 1000000);
        x = wearing(90, 0, 10);
        // 100, 0, 20 of 120
        parts(x, 6, 5, 0, 1);
        parts(x, 1000000, 833333, 0, 166667);
        x = Checks.with("kind a most 999;load 60;");
        for (int place = 0; place < 11; place++) {
            x.street(place, place + 1, 60, 100);
        }
        x.stand(0);
        for (int cart = 0; cart < 16; cart++) {
            x.cart(0, 1);
            x.call(0, 0, 11, 0, 999);
        }
        x.run(true);
        for (int cart = 0; cart < 16; cart++) {
            due("the greatest wear of cart " + cart, x.part(1000000, cart), 62500);
        }
    }

    private static void restsAndNumbers() {
        by("IV: and of what lacks then 1 each to those with the greatest rests (of like ones the least number)");
        CartFellows x = wearing(1, 2, 3);
        parts(x, 1, 0, 0, 1);
        parts(x, 2, 0, 1, 1);
        parts(x, 10, 3, 3, 4);
        parts(x, 35, 11, 12, 12);
        parts(x, 37, 11, 12, 14);
        x = wearing(4, 4, 4, 4);
        parts(x, 1, 1, 0, 0, 0);
        parts(x, 2, 1, 1, 0, 0);
        parts(x, 3, 1, 1, 1, 0);
        parts(x, 4, 1, 1, 1, 1);
        parts(x, 999999, 250000, 250000, 250000, 249999);
        x = wearing(0, 4, 0, 4);
        parts(x, 1, 0, 1, 0, 0);
        parts(x, 3, 0, 2, 0, 1);
        int[] weights = {9, 1, 17, 4, 4, 33, 2, 0};
        x = wearing(weights);
        int[] costs = {1, 2, 3, 4, 5, 6, 7, 100, 12345, 1000000};
        for (int cost : costs) {
            int sum = 0;
            for (int cart = 0; cart < weights.length; cart++) {
                sum += x.part(cost, cart);
            }
            due("the parts of " + cost, sum, cost);
        }
    }

    private static void noWear() {
        by("IV: nothing, if there is no WEAR");
        CartFellows x = wearing(0, 0);
        parts(x, 0, 0, 0);
        parts(x, 1, 0, 0);
        parts(x, 1000000, 0, 0);
    }

    private static void noCost() {
        by("30: a COST (0 .. 1000000); NONE if something can't be");
        CartFellows x = wearing(1, 2);
        int[] costs = {-1, 1000001, LEAST, MOST};
        for (int cost : costs) {
            due("of " + cost, x.part(cost, 0), NONE);
        }
        due("of 0", x.part(0, 0), 0);
        due("of 1000000", x.part(1000000, 0) + x.part(1000000, 1), 1000000);
        int[] carts = {-1, 2, 15, 16, LEAST, MOST};
        for (int cart : carts) {
            due("cart " + cart, x.part(10, cart), NONE);
            due("of a wrong cost, cart " + cart, x.part(-1, cart), NONE);
        }
        x.cart(0, 1);
        due("not in it", x.part(10, 2), NONE);
    }

    // ---- promise 31

    /** By TURNS cart 0 takes all from its near STAND; FREE both take turns. */
    private static CartFellows nearAndFar(String laws, int calls) {
        CartFellows x = pair(laws);
        x.street(2, 1, 9, 1);
        x.stand(2);
        x.cart(0, 1);
        x.cart(2, 1);
        for (int call = 0; call < calls; call++) {
            x.call(call * 30, 1, 0, 0, 1);
        }
        return x;
    }

    private static void gainsMoreOrLess() {
        by("31: How many FARTHINGS more (below 0: less) a cart earns by TURNS than FREE");
        CartFellows x = nearAndFar("rate 10 for all;", 6);
        due("more", x.gains(0), 60 - 30);
        due("less", x.gains(1), 0 - 30);
        x = nearAndFar("", 6);
        due("as much", x.gains(0), 0);
        due("as much", x.gains(1), 0);
        x = nearAndFar("rate 10 for all;", 0);
        due("no calls", x.gains(0), 0);
        x = nearAndFar("rate 10 for all;fine f is wait for all;bar 5;", 6);
        x.told(0, 0, 0, 1, 0, 0, 6, true);
        due("barred", x.gains(0), 0);
        due("the other takes all", x.gains(1), 0);
        x.as(0);
        due("as known", x.gains(0), 30);
    }

    private static void gainsAsTold() {
        by("31: as they would be told");
        StringBuilder laws = new StringBuilder();
        for (int i = 0; i < 20; i++) {
            laws.append("rate 10000*1000 for all;");
        }
        // 200000000 for each call
        CartFellows x = nearAndFar(laws.toString(), 16);
        due("3200000000 are told as 2000000000, against 1600000000", x.gains(0), 400000000);
        due("0 against 1600000000", x.gains(1), -1600000000);
        x = nearAndFar(laws.toString(), 24);
        due("both above", x.gains(0), 0);
        due("the least", x.gains(1), -2000000000);
    }

    private static void latestRunStays() {
        by("31: both run for that (the latest RUN stays)");
        boolean[] both = {true, false};
        for (boolean turns : both) {
            CartFellows x = nearAndFar("rate 10 for all;", 6);
            x.run(turns);
            x.cart(0, 1);
            x.call(500, 1, 0, 0, 1);
            int[] before = told(x);
            x.gains(0);
            x.gains(2);
            x.gains(3);
            int[] behind = told(x);
            for (int i = 0; i < before.length; i++) {
                due("answer " + i, behind[i], before[i]);
            }
            due("it can be booked", x.book(), 6);
            x.gains(0);
            due("it was booked", x.book(), NONE);
        }
    }

    private static int[] told(CartFellows x) {
        int[] answers = new int[40];
        for (int what = 0; what <= 7; what++) {
            answers[what] = x.taken(1, what);
            answers[8 + what] = x.cartOf(0, what);
            answers[16 + what] = x.cartOf(1, what);
            answers[24 + what] = x.day(what);
        }
        answers[32] = x.wear(0);
        answers[33] = x.wear(1);
        answers[34] = x.part(1000, 0);
        answers[35] = x.part(1000, 1);
        answers[36] = x.cartOf(2, 0);
        answers[37] = x.taken(6, 0);
        return answers;
    }

    private static void noGains() {
        by("31: -2000000001 if there is none such");
        CartFellows x = pair("");
        int[] none = {-1, 0, 1, 15, 16, LEAST, MOST};
        for (int cart : none) {
            due("without carts " + cart, x.gains(cart), NO_GAINS);
        }
        x.cart(0, 1);
        for (int cart : none) {
            due("one cart " + cart, x.gains(cart), cart == 0 ? 0 : NO_GAINS);
        }
        x.run(true);
        x.cart(0, 1);
        due("not in the latest run, but there", x.gains(1), 0);
        due("not there", x.gains(2), NO_GAINS);
    }

    // ---- promise 32

    private static void bookByCalls() {
        by("32: All CARRIAGES of the latest RUN come into THE BOOK, by CALLS: how many");
        CartFellows x = Checks.with("kind a most 99;kind b most 99;load 0;fine kb is 1 for is b;fine w is weight for all;"
            + "fine y is yards for all;fine m is minute for all;fine wt is wait for all;fine t is 1 for turn=1;");
        x.street(0, 1, 5, 30);
        x.stand(0);
        x.cart(0, 2);
        x.cart(0, 1);
        x.call(20, 1, 0, 1, 8);
        x.call(0, 1, 2, 0, 1);
        x.call(7, 0, 1, 0, 9);
        x.run(true);
        due("two", x.book(), 2);
        due("two acts", x.all(4), 2);
        int[] first = {1, 8, 30, 25, 5, 1};
        int[] second = {0, 9, 30, 7, 0, 0};
        for (int fine = 0; fine < 6; fine++) {
            due("call 0, fine " + fine, x.fine(1, fine), first[fine]);
            due("call 2, fine " + fine, x.fine(2, fine), second[fine]);
        }
        due("of cart 0", x.fines(0), 70);
        due("of cart 1", x.fines(1), 46);
        x.told(2, 5, 0, 1, 0, 0, 0, true);
        x.told(1, 5, 0, 1, 0, 0, 0, true);
        due("of call 2", x.right(2), 2);
        due("of call 1 there is none", x.right(1), 0);
        due("they are acts like others", x.annul(2), 5);
        x.as(1);
        due("as known", x.fines(1), 0);
    }

    private static void bookUpTo200() {
        by("32: NONE if there would be more than 200 ACTS");
        int[] told = {0, 197, 198, 199, 200};
        int[] want = {2, 2, 2, NONE, NONE};
        for (int i = 0; i < told.length; i++) {
            CartFellows x = ran();
            for (int act = 0; act < told[i]; act++) {
                x.told(0, 0, 0, 1, 1, 1, 1, true);
            }
            due("with " + told[i], x.book(), want[i]);
            due("acts", x.all(4), told[i] + Math.max(want[i], 0));
            due("again", x.book(), NONE);
            due("acts", x.all(4), told[i] + Math.max(want[i], 0));
        }
        CartFellows x = pair("");
        x.run(true);
        for (int act = 0; act < 200; act++) {
            x.told(0, 0, 0, 1, 1, 1, 1, true);
        }
        due("none of 200", x.book(), 0);
    }

    private static void bookOnce() {
        by("32: NONE if it was done");
        CartFellows x = ran();
        due("once", x.book(), 2);
        due("twice", x.book(), NONE);
        x.annul(1);
        due("also if an act is void", x.book(), NONE);
        x.run(true);
        due("another run", x.book(), 2);
        due("twice", x.book(), NONE);
        due("acts", x.all(4), 5);
        x.run(false);
        x.gains(0);
        due("a third run", x.book(), 2);
    }

    private static void bookOfNone() {
        by("32: how many (a RUN in which none was taken)");
        CartFellows x = pair("");
        x.call(0, 0, 1, 0, 1);
        x.run(true);
        due("none", x.book(), 0);
        due("it was done", x.book(), NONE);
        due("no acts", x.all(4), 0);
    }

    // ---- promises 33, 34

    private static void plansOfSix() {
        by("IV: THE STANDS for n of them (1 .. 6); 33: NONE if n can't be");
        CartFellows x = pair("");
        x.call(0, 11, 0, 0, 1);
        int[] wrong = {0, -1, 7, 12, LEAST, MOST};
        for (int n : wrong) {
            due("for " + n, x.plan(n), NONE);
            due("none told", x.planned(), NONE);
        }
        for (int n = 1; n <= 6; n++) {
            due("for " + n, x.plan(n), 0);
            due("n places", Integer.bitCount(x.planned()), n);
            due("the least places and that of the call", x.planned(), (1 << n - 1) - 1 + (1 << 11));
        }
        for (int n : wrong) {
            due("for " + n, x.plan(n), NONE);
        }
    }

    private static void leastSum() {
        by("IV: n PLACES so that the sum over all CALLS of how long a DRIVE from the nearest of them takes, begun at the CALL's minute, is least");
        CartFellows x = Checks.with("kind a most 9;shut 2 to 1 from 100 to 110;");
        x.street(0, 1, 7, 1);
        x.street(1, 2, 2, 1);
        x.street(2, 3, 5, 1);
        x.call(0, 0, 1, 0, 1);
        x.call(0, 1, 0, 0, 1);
        x.call(0, 2, 0, 0, 1);
        x.call(0, 3, 0, 0, 1);
        due("one: 9 + 2 + 5 from 2", x.plan(1), 16);
        due("of 1 and 2 the least place", x.planned(), 2);
        due("two", x.plan(2), 7);
        due("0 and 2", x.planned(), 1 + 4);
        due("three", x.plan(3), 2);
        due("0, 1 and 3", x.planned(), 1 + 2 + 8);
        due("four", x.plan(4), 0);
        x.call(109, 1, 0, 0, 1);
        due("shut for two minutes", x.plan(1), 16);
        due("from 1 it is at once", x.planned(), 2);
        x = Checks.with("kind a most 9;shut 2 to 1 from 100 to 110;");
        x.street(1, 2, 2, 1);
        x.call(110, 1, 2, 0, 1);
        x.call(0, 2, 1, 0, 1);
        x.call(0, 2, 1, 0, 1);
        due("from 2: shut at 110, so 3", x.plan(1), 3);
        due("2", x.planned(), 4);
        x.call(109, 1, 2, 0, 1);
        due("from 1: 4, from 2: 3 + 4", x.plan(1), 4);
        due("1", x.planned(), 2);
    }

    private static void leastPlace() {
        by("IV: of several the one that has the least PLACE in which two differ");
        CartFellows x = Checks.with("kind a most 9;");
        int[][] streets = {{0, 4}, {0, 5}, {3, 6}, {3, 7}, {1, 4}, {1, 6}, {2, 5}, {2, 7}};
        for (int[] street : streets) {
            x.street(street[0], street[1], 1, 1);
        }
        for (int from = 4; from <= 7; from++) {
            x.call(0, from, 0, 0, 1);
        }
        due("0 and 3, or 1 and 2, or two calls", x.plan(2), 4);
        due("0 and 3", x.planned(), 1 + 8);
        x = Checks.with("kind a most 9;");
        x.street(10, 11, 3, 1);
        x.call(0, 10, 0, 0, 1);
        x.call(0, 11, 0, 0, 1);
        due("10 or 11", x.plan(1), 3);
        due("10", x.planned(), 1 << 10);
        due("both", x.plan(2), 0);
        due("both", x.planned(), 3 << 10);
        due("both, and the least", x.plan(3), 0);
        due("both, and the least", x.planned(), 3 << 10 | 1);
    }

    private static void fromTheNearest() {
        by("IV: over all CALLS of how long a DRIVE from the nearest of them takes");
        CartFellows x = Checks.with("kind a most 9;");
        x.street(0, 1, 60, 1);
        x.street(2, 3, 60, 1);
        for (int call = 0; call < 40; call++) {
            x.call(1439, call % 2, 5, 0, 999);
        }
        due("40 calls, twenty of them 60 off", x.plan(1), 1200);
        due("0", x.planned(), 1);
        due("at each", x.plan(2), 0);
        due("0 and 1", x.planned(), 3);
    }

    private static void noPlan() {
        by("33: NONE if there are no CALLS, or there are no such from which all CALLS can be reached");
        CartFellows x = Checks.with("kind a most 9;");
        x.street(0, 1, 4, 1);
        x.street(2, 3, 4, 1);
        for (int n = 0; n <= 7; n++) {
            due("no calls, for " + n, x.plan(n), NONE);
        }
        due("none planned", x.planned(), NONE);
        x.call(0, 0, 11, 0, 1);
        x.call(0, 2, 11, 0, 1);
        due("not from one", x.plan(1), NONE);
        due("none planned", x.planned(), NONE);
        due("from two", x.plan(2), 0);
        due("0 and 2", x.planned(), 5);
        x.call(0, 9, 11, 0, 1);
        due("not from two", x.plan(2), NONE);
        due("from three", x.plan(3), 0);
        for (int from = 4; from <= 6; from++) {
            x.call(0, from, 11, 0, 1);
        }
        due("not from five", x.plan(5), NONE);
        due("from six", x.plan(6), 0);
        x.call(0, 7, 11, 0, 1);
        due("not from six", x.plan(6), NONE);
    }

    private static void latestPlan() {
        by("34: The PLACES of the latest plan() that told some, as bits; NONE ahead of any");
        CartFellows x = Checks.with("kind a most 9;");
        due("ahead of any", x.planned(), NONE);
        x.plan(1);
        due("it told none", x.planned(), NONE);
        x.call(0, 3, 0, 0, 1);
        due("still ahead of any", x.planned(), NONE);
        x.plan(1);
        due("3", x.planned(), 8);
        x.plan(2);
        due("0 and 3", x.planned(), 9);
        x.plan(7);
        due("that told none", x.planned(), 9);
        x.call(0, 4, 0, 0, 1);
        x.plan(1);
        due("that told none", x.planned(), 9);
        Checks.laws(x, "");
        due("by-laws leave it", x.planned(), 9);
        x.plan(1);
        due("without calls", x.planned(), 9);
        x.run(true);
        due("a run leaves it", x.planned(), 9);
    }

    // ---- promise 35

    private static void ofAll() {
        by("35: Of all: 0 STREETS, 1 KINDS, 2 FINES, 3 other STATEMENTS, 4 ACTS, 5 the ACT as known at which all is told, 6 STANDS, 7 carts, 8 CALLS. NONE for others.");
        CartFellows x = Checks.with("kind a most 5;fine f is 1 for all;fine g is 1 for all;bar 9;load 9;work 9 rest 9;");
        int[] others = {-1, 9, 10, LEAST, MOST};
        int[] want = {0, 1, 2, 3, 0, 0, 0, 0, 0};
        for (int round = 0; round < 5; round++) {
            for (int what = 0; what <= 8; what++) {
                due("what " + what, x.all(what), want[what]);
            }
            for (int what : others) {
                due("what " + what, x.all(what), NONE);
            }
            x.street(0, 1, 1, 1);
            x.told(0, 0, 0, 1, 1, 1, 1, true);
            x.told(0, 0, 0, 1, 1, 1, 1, true);
            x.stand(round);
            x.cart(0, 1);
            x.cart(0, 1);
            x.cart(0, 1);
            x.call(0, 0, 1, 0, 1);
            want[0]++;
            want[4] += 2;
            want[5] += 2;
            want[6]++;
            want[7] += 3;
            want[8]++;
        }
        x.as(0);
        due("as at 0", x.all(5), 0);
        x.as(7);
        due("as at 7", x.all(5), 7);
        due("all acts", x.all(4), 10);
        x.as(NONE);
        due("always the last one", x.all(5), 10);
    }
}
