/**
 * A test for each sentence of the document that names a boundary case: the tape, the city, drives
 * (Term I, promises 1 to 4, 8, 9, 21, 22).
 */
public final class CityEdgeTests {
    private static final int NONE = CartFellows.NONE;
    private static final int LEAST = Integer.MIN_VALUE;
    private static final int MOST = Integer.MAX_VALUE;
    private static final int BLANKS = 0x20202020;
    /** No PLACES. */
    private static final int[] NOWHERE = {LEAST, -12, -1, 12, 13, 31, 32, MOST};

    private CityEdgeTests() {
    }

    public static void main(String[] args) {
        nothingAtFirst();
        objectsApart();
        calls();
        twentyBytes();
        highestFirst();
        fullTape();
        firstBytesAlone();
        notSoMany();
        streetCount();
        placesOfStreets();
        twoPlaces();
        minutesOfStreets();
        yardsOfStreets();
        most24();
        bothWays();
        behindTheDay();
        waits();
        enteredAtAMinute();
        noneShutBehindTheDay();
        earliest();
        leastStreet();
        reachedAtItsEarliest();
        theWay();
        minutesOfDrives();
        toItself();
        noDrive();
        shutAtMinutes();
        shutOneWay();
        noneShut();
        sixStands();
        noStand();
        wharves();
        noWharf();
        Checks.close("CityEdgeTests");
    }

    private static void by(String words) {
        Checks.by(words);
    }

    private static void due(String what, long got, long want) {
        Checks.due(what, got, want);
    }

    private static void blanks(CartFellows x, int times) {
        for (int i = 0; i < times; i++) {
            x.feed(BLANKS, BLANKS, BLANKS, BLANKS, BLANKS);
        }
    }

    // ---- promise 1

    private static void nothingAtFirst() {
        by("1: No STREETS, BY-LAWS, ACTS, STANDS, carts, CALLS.");
        CartFellows x = new CartFellows();
        for (int what = 0; what <= 8; what++) {
            due("all " + what, x.all(what), 0);
        }
        Checks.fails("the tape is empty", x.end(1));
        due("fault", x.fault(0), 0);
        due("place of a fault", x.fault(1), NONE);
        due("no kind", x.name(false, 0, 0), NONE);
        due("no fine", x.name(true, 0, 0), NONE);
        due("no street", x.drive(0, 1, 0, 0), NONE);
        due("no kind to tell of", x.told(0, 0, 0, 1, 1, 1, 1, true), NONE);
        due("no act: witness", x.witness(1, true), NONE);
        due("no act: appeal", x.appeal(1, 0), NONE);
        due("no act: annul", x.annul(1), NONE);
        Checks.fails("no act: as", x.as(1));
        due("no act: rate", x.rate(1), NONE);
        due("no act: fine", x.fine(1, 0), NONE);
        due("no fines", x.fines(0), 0);
        due("none barred", x.barred(0), 0);
        due("no quarrels", x.quarrels(), 0);
        due("none right", x.right(0), 0);
        due("no stand", x.cart(0, 1), NONE);
        due("no kind to call", x.call(0, 0, 1, 0, 1), NONE);
        due("no cart", x.gains(0), -2000000001);
        due("no plan", x.plan(1), NONE);
        due("none planned", x.planned(), NONE);
        due("no run: taken", x.taken(0, 0), NONE);
        due("no run: cartOf", x.cartOf(0, 0), NONE);
        due("no run: day", x.day(0), NONE);
        due("no run: wear", x.wear(0), NONE);
        due("no run: part", x.part(0, 0), NONE);
        due("no run: book", x.book(), NONE);
        for (int place = 0; place < 12; place++) {
            Checks.fails("no wharf", x.wharf(place, false));
        }
    }

    private static void objectsApart() {
        by("1: A new object (whatever others have)");
        CartFellows x = Checks.with("kind a most 5;fine f is 9 for all;bar 3;");
        x.street(0, 1, 5, 5);
        x.stand(0);
        x.wharf(0, true);
        x.cart(0, 1);
        x.call(0, 0, 1, 0, 1);
        x.told(0, 0, 0, 1, 1, 1, 1, true);
        x.plan(1);
        x.run(true);
        blanks(x, 3);
        CartFellows y = new CartFellows();
        for (int what = 0; what <= 8; what++) {
            due("all " + what, y.all(what), 0);
        }
        due("tape", y.feed(0, 0, 0, 0, 0), 20);
        due("planned", y.planned(), NONE);
        due("day", y.day(0), NONE);
        Checks.holds("wharf", y.wharf(0, true));
        due("the other's tape", x.feed(0, 0, 0, 0, 0), 80);
        due("the other's acts", x.all(4), 1);
    }

    private static void calls() {
        by("What it is: An object is used for at most 512 calls after it has been made");
        CartFellows x = new CartFellows();
        for (int call = 1; call < 512; call++) {
            due("call " + call, x.street(0, 1, 1, 1), call <= 24 ? call : NONE);
        }
        due("the 512th call", x.all(0), 24);
    }

    // ---- promise 2

    private static void twentyBytes() {
        by("2: Twenty bytes come behind those on the tape: how many there are");
        CartFellows x = new CartFellows();
        due("none yet", x.feed(BLANKS, BLANKS, BLANKS, BLANKS, BLANKS), 20);
        // "kind abcdefgh most 7", ";" behind it
        due("behind", x.feed(0x6b696e64, 0x20616263, 0x64656667, 0x68206d6f, 0x73742037), 40);
        due("behind", x.feed(0x3b202020, BLANKS, BLANKS, BLANKS, BLANKS), 60);
        due("a statement", x.laws(), 1);
        for (int k = 0; k < 8; k++) {
            due("letter " + k, x.name(false, 0, k), 'a' + k);
        }
        x.end(0);
        blanks(x, 2);
        x.end(27);
        due("behind a part", x.feed(0, 0, 0, 0, 0), 47);
        due("the zeros are behind", x.laws(), NONE);
        due("from there on", x.fault(1), 27);
    }

    private static void highestFirst() {
        by("2: of each number the highest first");
        for (int i = 0; i < 20; i++) {
            for (int sign = 127; sign <= 255; sign += 64) {
                int[] numbers = {BLANKS, BLANKS, BLANKS, BLANKS, BLANKS};
                int shift = 24 - i % 4 * 8;
                numbers[i / 4] = BLANKS & ~(255 << shift) | sign << shift;
                CartFellows x = new CartFellows();
                x.feed(numbers[0], numbers[1], numbers[2], numbers[3], numbers[4]);
                due("byte " + i + " is " + sign, x.laws(), NONE);
                due("byte " + i + " is at its place", x.fault(1), i);
            }
        }
        CartFellows x = new CartFellows();
        x.feed(LEAST, MOST, -1, 0, 1);
        due("the whole range", x.laws(), NONE);
        due("the whole range", x.fault(1), 0);
    }

    private static void fullTape() {
        by("2: NONE, doing nothing, if there would be more than 1000");
        CartFellows x = new CartFellows();
        for (int i = 1; i <= 50; i++) {
            due("up to 1000", x.feed(BLANKS, BLANKS, BLANKS, BLANKS, BLANKS), 20 * i);
        }
        due("1020", x.feed(0, 0, 0, 0, 0), NONE);
        due("again", x.feed(0, 0, 0, 0, 0), NONE);
        Checks.fails("no more bytes", x.end(1001));
        Checks.holds("all bytes", x.end(1000));
        due("blanks alone", x.laws(), 0);
        for (int n = 981; n <= 1000; n++) {
            x = new CartFellows();
            blanks(x, 50);
            x.end(n);
            due(n + " and 20", x.feed(0, 0, 0, 0, 0), NONE);
            Checks.fails("no byte more than " + n, x.end(n + 1));
            Checks.holds("no byte less than " + n, x.end(n));
            due("blanks alone", x.laws(), 0);
        }
        x = new CartFellows();
        blanks(x, 49);
        due("just 1000", x.feed(BLANKS, BLANKS, BLANKS, BLANKS, 0x20202021), 1000);
        due("the last byte is read", x.laws(), NONE);
        due("the last byte is read", x.fault(1), 999);
    }

    // ---- promise 3

    private static void firstBytesAlone() {
        by("3: The tape has its first n bytes alone: true");
        CartFellows x = new CartFellows();
        // "bar 7;" and zeros
        x.feed(0x62617220, 0x373b0000, 0, 0, 0);
        Checks.holds("all of it", x.end(20));
        Checks.holds("7", x.end(7));
        Checks.holds("6", x.end(6));
        due("what is behind is gone", x.laws(), 1);
        x.feed(0, 0, 0, 0, 0);
        Checks.holds("0", x.end(0));
        due("empty", x.laws(), 0);
        Checks.holds("0 of an empty one", x.end(0));
        // "bar 7;", cut to "bar 7", then ";" again
        x.feed(0x62617220, 0x373b2020, BLANKS, BLANKS, BLANKS);
        x.end(5);
        due("fed behind the cut", x.feed(0x3b202020, BLANKS, BLANKS, BLANKS, BLANKS), 25);
        due("fed behind the cut", x.laws(), 1);
        x.feed(0x62617220, 0x373b2020, BLANKS, BLANKS, BLANKS);
        x.end(5);
        due("what was cut does not come back", x.laws(), NONE);
        due("the text ends there", x.fault(1), 5);
    }

    private static void notSoMany() {
        by("3: false, doing nothing, if it has not so many, or n is below 0");
        CartFellows x = new CartFellows();
        int[] ofNone = {1, -1, 1000, LEAST, MOST};
        for (int n : ofNone) {
            Checks.fails("of none " + n, x.end(n));
        }
        due("nothing was done", x.feed(0x62617220, 0x373b2020, BLANKS, BLANKS, BLANKS), 20);
        int[] of20 = {21, -1, -20, 1000, 1001, LEAST, MOST};
        for (int n : of20) {
            Checks.fails("of 20 " + n, x.end(n));
        }
        due("nothing was done", x.feed(BLANKS, BLANKS, BLANKS, BLANKS, 0), 40);
        Checks.fails("41 of 40", x.end(41));
        Checks.holds("39 of 40", x.end(39));
        Checks.fails("40 of 39", x.end(40));
        x.end(36);
        due("all of it is there", x.laws(), 1);
        Checks.fails("by-laws leave none", x.end(1));
    }

    // ---- promise 4 and Term I: STREETS

    private static void streetCount() {
        by("4: A STREET: how many there are");
        CartFellows x = new CartFellows();
        due("first", x.street(3, 7, 2, 2), 1);
        due("second", x.street(7, 8, 2, 2), 2);
        due("another between the same", x.street(3, 7, 2, 2), 3);
        due("and the other way", x.street(7, 3, 2, 2), 4);
        due("all", x.all(0), 4);
    }

    private static void placesOfStreets() {
        by("I: PLACES 0 .. 11 (a STREET's; NONE if something can't be)");
        CartFellows x = new CartFellows();
        for (int place : NOWHERE) {
            due("from " + place, x.street(place, 1, 5, 5), NONE);
            due("to " + place, x.street(1, place, 5, 5), NONE);
            due("both " + place, x.street(place, place, 5, 5), NONE);
        }
        due("nothing was done", x.all(0), 0);
        due("0 to 11", x.street(0, 11, 5, 5), 1);
        due("11 to 0", x.street(11, 0, 5, 5), 2);
        due("11 to 10", x.street(11, 10, 5, 5), 3);
        due("0 to 1", x.street(0, 1, 5, 5), 4);
    }

    private static void twoPlaces() {
        by("I: each between two of them");
        CartFellows x = new CartFellows();
        for (int place = 0; place < 12; place++) {
            due("from " + place + " to itself", x.street(place, place, 5, 5), NONE);
        }
        due("nothing was done", x.all(0), 0);
    }

    private static void minutesOfStreets() {
        by("I: MINUTES (1 .. 60)");
        CartFellows x = new CartFellows();
        int[] wrong = {0, -1, 61, LEAST, MOST};
        for (int minutes : wrong) {
            due(minutes + " minutes", x.street(0, 1, minutes, 5), NONE);
        }
        due("nothing was done", x.all(0), 0);
        due("60", x.street(0, 1, 60, 5), 1);
        due("60 minutes", x.drive(0, 1, 0, 0), 60);
        due("1", x.street(0, 1, 1, 5), 2);
        due("1 minute", x.drive(0, 1, 0, 0), 1);
    }

    private static void yardsOfStreets() {
        by("I: YARDS (1 .. 100)");
        CartFellows x = new CartFellows();
        int[] wrong = {0, -1, 101, LEAST, MOST};
        for (int yards : wrong) {
            due(yards + " yards", x.street(0, 1, 5, yards), NONE);
        }
        due("nothing was done", x.all(0), 0);
        due("100", x.street(0, 1, 6, 100), 1);
        due("100 yards", x.drive(0, 1, 0, 1), 100);
        due("1", x.street(0, 1, 5, 1), 2);
        due("1 yard", x.drive(0, 1, 0, 1), 1);
    }

    private static void most24() {
        by("I: STREETS, numbered from 0 on (24 at most); 4: NONE if there are 24");
        CartFellows x = new CartFellows();
        for (int i = 0; i < 23; i++) {
            due("street " + i, x.street(i / 11, i / 11 + 1 + i % 10, 60, 100), i + 1);
        }
        due("the 24th", x.street(10, 11, 1, 1), 24);
        due("a 25th", x.street(9, 11, 1, 1), NONE);
        due("again", x.street(9, 11, 1, 1), NONE);
        due("24 there are", x.all(0), 24);
        due("the least number", x.drive(0, 1, 0, 2), 0);
        due("the greatest number", x.drive(10, 11, 0, 2), 23);
        due("the 25th is not there", x.drive(9, 11, 0, 0) == 1 ? 1 : 0, 0);
    }

    private static void bothWays() {
        by("I: driven both ways");
        CartFellows x = new CartFellows();
        x.street(4, 9, 7, 3);
        due("there", x.drive(4, 9, 5, 0), 12);
        due("back", x.drive(9, 4, 5, 0), 12);
        due("yards there", x.drive(4, 9, 5, 1), 3);
        due("yards back", x.drive(9, 4, 5, 1), 3);
        due("street there", x.drive(4, 9, 5, 2), 0);
        due("street back", x.drive(9, 4, 5, 2), 0);
    }

    // ---- Term I: DRIVES

    private static void behindTheDay() {
        by("I: what begins in it may go on behind it");
        CartFellows x = new CartFellows();
        x.street(0, 1, 60, 1);
        x.street(1, 2, 60, 1);
        due("to its end", x.drive(0, 1, 1379, 0), 1439);
        due("from its end", x.drive(0, 1, 1439, 0), 1499);
        due("entered behind it", x.drive(0, 2, 1439, 0), 1559);
    }

    private static void waits() {
        by("I: a cart may wait at PLACES");
        CartFellows x = Checks.with("shut 0 to 1 from 100 to 200;shut 1 to 2 from 205 to 300;");
        x.street(0, 1, 10, 1);
        x.street(1, 2, 10, 2);
        x.street(3, 0, 10, 4);
        due("where it begins", x.drive(0, 1, 100, 0), 211);
        due("on its way", x.drive(3, 1, 91, 0), 211);
        due("not, if it comes ahead", x.drive(3, 1, 89, 0), 109);
        due("twice", x.drive(3, 2, 91, 0), 311);
        due("once", x.drive(3, 2, 70, 0), 100);
        due("yards", x.drive(3, 2, 91, 1), 7);
    }

    private static void enteredAtAMinute() {
        by("I: a STREET may be entered that way at a minute at which it is not SHUT");
        CartFellows x = Checks.with("shut 0 to 1 from 201 to 300;shut 0 to 1 from 100 to 200;shut 0 to 1 from 302 to 302;");
        x.street(0, 1, 10, 1);
        due("ahead, and on it while it is shut", x.drive(0, 1, 99, 0), 109);
        due("the first minute", x.drive(0, 1, 100, 0), 311);
        due("where two touch", x.drive(0, 1, 200, 0), 311);
        due("where two touch", x.drive(0, 1, 201, 0), 311);
        due("the last minute", x.drive(0, 1, 300, 0), 311);
        due("open for a minute", x.drive(0, 1, 301, 0), 311);
        due("shut for a minute", x.drive(0, 1, 302, 0), 313);
        due("behind", x.drive(0, 1, 303, 0), 313);
        due("the other way", x.drive(1, 0, 150, 0), 160);
    }

    private static void noneShutBehindTheDay() {
        by("I: (behind the DAY none is)");
        CartFellows x = Checks.with("shut 0 to 1 from 0 to 1439;");
        x.street(0, 1, 10, 1);
        due("all day", x.drive(0, 1, 0, 0), 1450);
        due("the last minute", x.drive(0, 1, 1439, 0), 1450);
        due("the first behind", x.drive(0, 1, 1440, 0), 1450);
        due("behind", x.drive(0, 1, 1441, 0), 1451);
        due("far behind", x.drive(0, 1, 2880, 0), 2890);
        due("a day later the same minute", x.drive(0, 1, 1440 + 720, 0), 2170);
    }

    private static void earliest() {
        by("I: Each PLACE is reached at the earliest minute that can be");
        CartFellows x = Checks.with("shut 0 to 2 from 50 to 69;");
        x.street(0, 2, 5, 1);
        x.street(0, 1, 10, 20);
        x.street(1, 2, 10, 20);
        due("straight on", x.drive(0, 2, 49, 0), 54);
        due("round about", x.drive(0, 2, 50, 0), 70);
        due("round about is sooner by one", x.drive(0, 2, 54, 0), 74);
        due("round about, yards", x.drive(0, 2, 54, 1), 40);
        due("both as soon", x.drive(0, 2, 55, 0), 75);
        due("waiting is sooner by one", x.drive(0, 2, 56, 0), 75);
        due("waiting, yards", x.drive(0, 2, 56, 1), 1);
        x = new CartFellows();
        for (int place = 0; place < 11; place++) {
            x.street(place, place + 1, 1, 1);
        }
        x.street(0, 11, 12, 1);
        due("by eleven streets", x.drive(0, 11, 0, 0), 11);
        due("by eleven streets", x.drive(0, 11, 0, 1), 11);
        due("and back", x.drive(11, 0, 0, 0), 11);
    }

    private static void leastStreet() {
        by("I: its LAST STREET is that with the least number by which it is reached then");
        CartFellows x = new CartFellows();
        x.street(0, 1, 6, 50);
        x.street(0, 1, 5, 90);
        x.street(1, 0, 5, 10);
        due("of like ones the least number", x.drive(0, 1, 0, 2), 1);
        due("its yards", x.drive(0, 1, 0, 1), 90);
        due("back too", x.drive(1, 0, 0, 2), 1);
        x = new CartFellows();
        x.street(1, 3, 4, 1);
        x.street(2, 3, 3, 2);
        x.street(0, 1, 3, 10);
        x.street(0, 2, 4, 20);
        due("from the place reached first", x.drive(0, 3, 0, 2), 0);
        due("its way", x.drive(0, 3, 0, 1), 11);
        x = new CartFellows();
        x.street(2, 3, 3, 2);
        x.street(1, 3, 4, 1);
        x.street(0, 1, 3, 10);
        x.street(0, 2, 4, 20);
        due("from the place reached last", x.drive(0, 3, 0, 2), 0);
        due("its way", x.drive(0, 3, 0, 1), 22);
    }

    private static void reachedAtItsEarliest() {
        by("I: from a PLACE that itself is reached at its earliest");
        // the last street is shut long enough to come to it by the longer street 0 as well
        CartFellows x = Checks.with("shut 1 to 2 from 0 to 50;");
        x.street(0, 1, 9, 1);
        x.street(0, 1, 5, 10);
        x.street(1, 2, 5, 30);
        due("there", x.drive(0, 2, 0, 0), 56);
        due("by the street that is soonest there", x.drive(0, 2, 0, 1), 40);
        due("last", x.drive(0, 2, 0, 2), 2);
    }

    private static void theWay() {
        by("I: THE WAY: LAST STREETS back to where it began; its YARDS: theirs");
        CartFellows x = new CartFellows();
        x.street(5, 6, 2, 3);
        x.street(8, 6, 2, 20);
        x.street(9, 8, 2, 100);
        x.street(9, 10, 2, 50);
        due("one street", x.drive(5, 6, 0, 1), 3);
        due("two", x.drive(5, 8, 0, 1), 23);
        due("three", x.drive(5, 9, 0, 1), 123);
        due("four", x.drive(5, 10, 0, 1), 173);
        due("its last", x.drive(5, 10, 0, 2), 3);
        due("back", x.drive(10, 5, 0, 1), 173);
        due("back, its last", x.drive(10, 5, 0, 2), 0);
    }

    // ---- promise 9

    private static void minutesOfDrives() {
        by("9: from a minute (0 .. 9999) on");
        CartFellows x = new CartFellows();
        x.street(0, 1, 5, 5);
        int[] wrong = {-1, 10000, LEAST, MOST};
        for (int minute : wrong) {
            for (int what = 0; what <= 2; what++) {
                due("from " + minute, x.drive(0, 1, minute, what), NONE);
                due("to itself from " + minute, x.drive(0, 0, minute, what), NONE);
            }
        }
        due("from 0", x.drive(0, 1, 0, 0), 5);
        due("from 9999", x.drive(0, 1, 9999, 0), 10004);
    }

    private static void toItself() {
        by("9: (NONE from a PLACE to itself)");
        CartFellows x = new CartFellows();
        for (int round = 0; round < 2; round++) {
            for (int place = 0; place < 12; place++) {
                due("there at once", x.drive(place, place, 77, 0), 77);
                due("no yards", x.drive(place, place, 77, 1), 0);
                due("no street", x.drive(place, place, 77, 2), NONE);
            }
            x.street(0, 11, 1, 1);
            x.street(3, 4, 1, 1);
        }
        due("from 0", x.drive(0, 0, 0, 0), 0);
        due("from 9999", x.drive(0, 0, 9999, 0), 9999);
    }

    private static void noDrive() {
        by("9: NONE if it can't be reached, there are none such, or for others");
        CartFellows x = new CartFellows();
        x.street(0, 1, 5, 5);
        x.street(2, 3, 5, 5);
        for (int what = 0; what <= 2; what++) {
            due("can't be reached", x.drive(0, 2, 0, what), NONE);
            due("can't be reached", x.drive(3, 1, 0, what), NONE);
            due("can't be reached", x.drive(11, 0, 0, what), NONE);
            for (int place : NOWHERE) {
                due("from " + place, x.drive(place, 0, 0, what), NONE);
                due("to " + place, x.drive(0, place, 0, what), NONE);
                due("both " + place, x.drive(place, place, 0, what), NONE);
            }
        }
        int[] others = {-1, 3, 4, LEAST, MOST};
        for (int what : others) {
            due("what " + what, x.drive(0, 1, 0, what), NONE);
            due("to itself, what " + what, x.drive(0, 0, 0, what), NONE);
        }
        x.street(1, 2, 5, 5);
        due("reached by then", x.drive(0, 3, 0, 0), 15);
    }

    // ---- promise 8

    private static void shutAtMinutes() {
        by("8: Whether STREETS from a PLACE to another one are SHUT at a minute (0 .. 1439)");
        CartFellows x = Checks.with("shut 0 to 1 from 100 to 200;shut 1 to 0 from 0 to 0;shut 1 to 0 from 1439 to 1439;"
            + "shut 1 to 2 from 5 to 9;shut 1 to 2 from 8 to 12;shut 1 to 2 from 13 to 14;shut 2 to 1 from 0 to 1439;");
        x.street(0, 1, 5, 5);
        x.street(1, 2, 5, 5);
        int[][] asked = {{0, 1, 99, 0}, {0, 1, 100, 1}, {0, 1, 101, 1}, {0, 1, 199, 1}, {0, 1, 200, 1}, {0, 1, 201, 0},
            {1, 0, 0, 1}, {1, 0, 1, 0}, {1, 0, 1438, 0}, {1, 0, 1439, 1}, {1, 2, 4, 0}, {1, 2, 5, 1}, {1, 2, 9, 1},
            {1, 2, 12, 1}, {1, 2, 13, 1}, {1, 2, 14, 1}, {1, 2, 15, 0}, {2, 1, 0, 1}, {2, 1, 1439, 1}};
        for (int[] a : asked) {
            due(a[0] + " to " + a[1] + " at " + a[2], x.shut(a[0], a[1], a[2]), a[3]);
        }
        int[] wrong = {-1, 1440, 1441, LEAST, MOST};
        for (int minute : wrong) {
            due("at " + minute, x.shut(0, 1, minute), NONE);
            due("at " + minute, x.shut(2, 1, minute), NONE);
        }
    }

    private static void shutOneWay() {
        by("II: is SHUT that way; so shut 0 to 1 from 100 to 200 shuts the way from PLACE 0 to PLACE 1");
        CartFellows x = Checks.with("shut 0 to 1 from 100 to 200;");
        x.street(1, 0, 5, 5);
        x.street(0, 2, 5, 5);
        x.street(2, 1, 5, 5);
        due("that way", x.shut(0, 1, 150), 1);
        due("the other way", x.shut(1, 0, 150), 0);
        due("from there to another", x.shut(0, 2, 150), 0);
        due("to there from another", x.shut(2, 1, 150), 0);
        due("round about", x.drive(0, 1, 150, 0), 160);
        due("back", x.drive(1, 0, 150, 0), 155);
        x.street(0, 1, 1, 5);
        due("each street between them", x.drive(0, 1, 150, 0), 160);
    }

    private static void noneShut() {
        by("8: NONE if there are none such");
        CartFellows x = Checks.with("shut 0 to 1 from 0 to 1439;shut 4 to 5 from 0 to 1439;");
        due("no street yet", x.shut(0, 1, 5), NONE);
        x.street(1, 0, 5, 5);
        due("a street", x.shut(0, 1, 5), 1);
        due("the other way", x.shut(1, 0, 5), 0);
        due("no street", x.shut(4, 5, 5), NONE);
        due("no street, not shut", x.shut(0, 2, 5), NONE);
        for (int place = 0; place < 12; place++) {
            due("to itself", x.shut(place, place, 5), NONE);
        }
        for (int place : NOWHERE) {
            due("from " + place, x.shut(place, 1, 5), NONE);
            due("to " + place, x.shut(0, place, 5), NONE);
        }
    }

    // ---- promises 21, 22

    private static void sixStands() {
        by("IV: PLACES that are STANDS, 6 at most; 21: A STAND: how many there are; NONE if there are 6");
        CartFellows x = new CartFellows();
        int[] places = {11, 0, 5, 10, 1, 6};
        for (int i = 0; i < 6; i++) {
            due("stand " + places[i], x.stand(places[i]), i + 1);
        }
        int[] more = {2, 3, 4, 7, 8, 9};
        for (int place : more) {
            due("a 7th at " + place, x.stand(place), NONE);
        }
        due("6 there are", x.all(6), 6);
        for (int place : more) {
            due("no stand at " + place, x.cart(place, 1), NONE);
        }
        for (int i = 0; i < 6; i++) {
            due("a cart at " + places[i], x.cart(places[i], 1), i);
        }
    }

    private static void noStand() {
        by("21: NONE if it is one, can't be");
        CartFellows x = new CartFellows();
        for (int place : NOWHERE) {
            due("at " + place, x.stand(place), NONE);
        }
        due("nothing was done", x.all(6), 0);
        due("the least", x.stand(0), 1);
        due("it is one", x.stand(0), NONE);
        due("the greatest", x.stand(11), 2);
        due("it is one", x.stand(11), NONE);
        due("the first still is one", x.stand(0), NONE);
        due("nothing was done", x.all(6), 2);
    }

    private static void wharves() {
        by("22: A WHARF (or none any more): true; false if it is so already");
        CartFellows x = new CartFellows();
        for (int place = 0; place < 12; place++) {
            Checks.fails("none yet " + place, x.wharf(place, false));
        }
        for (int place = 0; place < 12; place++) {
            Checks.holds("a wharf " + place, x.wharf(place, true));
            Checks.fails("it is so already " + place, x.wharf(place, true));
        }
        for (int place = 0; place < 12; place++) {
            Checks.fails("all of them are " + place, x.wharf(place, true));
            Checks.holds("none any more " + place, x.wharf(place, false));
            Checks.fails("it is so already " + place, x.wharf(place, false));
        }
        Checks.holds("again", x.wharf(7, true));
    }

    private static void noWharf() {
        by("22: false if it can't be");
        CartFellows x = new CartFellows();
        for (int place : NOWHERE) {
            Checks.fails("a wharf " + place, x.wharf(place, true));
            Checks.fails("none " + place, x.wharf(place, false));
        }
        for (int place = 0; place < 12; place++) {
            Checks.holds("nothing was done " + place, x.wharf(place, true));
        }
    }
}
