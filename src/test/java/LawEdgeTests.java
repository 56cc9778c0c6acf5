/**
 * A test for each sentence of the document that names a boundary case: the by-laws' text, its faults,
 * what it stands for (Term II, promises 5 to 7, 15).
 */
public final class LawEdgeTests {
    private static final int NONE = CartFellows.NONE;
    private static final int LEAST = Integer.MIN_VALUE;
    private static final int MOST = Integer.MAX_VALUE;
    private static final String[] OWN = {"kind", "most", "shut", "to", "from", "rate", "for", "fine", "is", "work", "rest",
        "load", "bar", "or", "and", "not", "all", "yards", "weight", "minute", "wait", "turn", "min", "max"};

    private LawEdgeTests() {
    }

    public static void main(String[] args) {
        words();
        numbers();
        blanks();
        blanksBetween();
        noStatement();
        eightKinds();
        mostOfAKind();
        placesShut();
        minutesShut();
        allRates();
        finesAtLeast0();
        twelveFines();
        hoursOfWork();
        hoursOfRest();
        minutesOfLoad();
        whole10s();
        barOfCarts();
        precedenceOfTests();
        signs();
        isKind();
        precedenceOfSums();
        minAndMax();
        fromTheLeft();
        wholeNotAbove();
        byZero();
        boundsOfSums();
        ownWords();
        namesUnlike();
        thirtyOthers();
        openAtOnce();
        firstAlongTheText();
        firstByte();
        wholeWords();
        tooSoon();
        tooLong();
        ownWordForName();
        nameThere();
        noKindAhead();
        wrongNumber();
        tooMany();
        openTooMuch();
        statements();
        faultLeavesAll();
        whatGoes();
        noneOfThoseAhead();
        eachAsTheFirst();
        whatStays();
        tapeGoes();
        faultOfLatest();
        letters();
        noLetter();
        rateOfNone();
        Checks.close("LawEdgeTests");
    }

    private static void by(String words) {
        Checks.by(words);
    }

    private static void due(String what, long got, long want) {
        Checks.due(what, got, want);
    }

    /** A text that is one of by-laws, of so many statements. */
    private static void good(String text, int statements) {
        CartFellows x = new CartFellows();
        due("laws of " + text, Checks.laws(x, text), statements);
        due("fault of " + text, x.fault(0), 0);
        due("place of " + text, x.fault(1), NONE);
    }

    private static void bad(String text, int fault, int place) {
        CartFellows x = new CartFellows();
        due("laws of " + text, Checks.laws(x, text), NONE);
        due("fault of " + text, x.fault(0), fault);
        due("place of the fault of " + text, x.fault(1), place);
    }

    /** A text whose fault stands where the sign ^ does (which goes). */
    private static void at(int fault, String text) {
        int place = text.indexOf('^');
        bad(text.substring(0, place) + text.substring(place + 1), fault, place);
    }

    /** RATE by some by-laws of a carriage: KIND 1, WEIGHT 37, YARDS 1200, MINUTE 700, WAIT 44, its TURN. */
    private static int rateBy(String laws) {
        CartFellows x = Checks.with("kind a most 5;kind b most 5;kind c most 5;" + laws);
        x.told(0, 0, 1, 37, 1200, 700, 44, true);
        return x.rate(1);
    }

    /** A SUM is so much: told by a FINE or RATE, which are 0 at least, so what is below is turned round. */
    private static void sum(String sum, int want) {
        due(sum, rateBy("rate " + sum + " for all;"), Math.max(want, 0));
        due("0-(" + sum + ")", rateBy("rate 0-(" + sum + ") for all;"), Math.max(-want, 0));
    }

    private static void test(String test, boolean want) {
        due(test, rateBy("rate 1 for " + test + ";"), want ? 1 : 0);
    }

    private static String repeat(String text, int times) {
        StringBuilder all = new StringBuilder();
        for (int i = 0; i < times; i++) {
            all.append(text.replace("?", Character.toString((char) ('a' + i))));
        }
        return all.toString();
    }

    // ---- Term II: what stands in a text

    private static void words() {
        by("II: WORDS (1 to 8 letters a .. z)");
        good("kind a most 5;kind z most 5;kind abcdefgh most 5;kind zzzzzzzz most 5;", 4);
        at(1, "kind abcdefgh^i most 5;");
        at(1, "kind zzzzzzzz^z most 5;");
        at(1, "kind ^A most 5;");
        at(1, "kind ^Z most 5;");
        at(1, "kind a^A most 5;");
        at(1, "kind ^` most 5;");
        at(1, "kind ^{ most 5;");
        at(1, "kind ^" + (char) 233 + " most 5;");
        at(1, "kind ^_ most 5;");
    }

    private static void numbers() {
        by("II: NUMBERS (1 to 5 digits)");
        good("bar 0;bar 9;bar 10;bar 00000;bar 00009;bar 99999;", 6);
        at(1, "bar 00000^0;");
        at(1, "bar 99999^9;");
        at(1, "bar ^/;");
        at(1, "bar ^:;");
        at(1, "bar ^-1;");
        at(1, "bar ^+1;");
        at(1, "bar 1^.0;");
        due("its digits", rateBy("rate 12345 for all;"), 12345);
        due("0 ahead", rateBy("rate 00012 for all;"), 12);
    }

    private static void blanks() {
        by("II: with blanks (10, 32)");
        for (int sign = 0; sign < 256; sign++) {
            String text = Character.toString((char) sign);
            boolean isBlank = sign == 10 || sign == 32;
            boolean isLetter = sign >= 'a' && sign <= 'z';
            if (isBlank) {
                good(text + "bar 7;", 1);
                good("bar" + text + "7;", 1);
                good("bar 7" + text + ";", 1);
                good("bar 7;" + text, 1);
            } else {
                bad(text + "bar 7;", 1, 0);
                bad("bar" + text + "7;", 1, isLetter ? 0 : 3);
                bad("bar 7;" + text, 1, 6);
            }
        }
    }

    private static void blanksBetween() {
        by("II: blanks between where one likes (WORDS and NUMBERS side by side need one)");
        good("\n \n bar \n\n 7 \n ; \n ", 1);
        good("rate(1)for[all];", 1);
        good("rate 1+2*(3)-4/yards for yards<5 and[all]or not all;", 1);
        good("rate ( 1 ) + min ( 1 , 2 ) for [ all ] ;", 1);
        at(1, "bar^7;");
        at(1, "bar 7^bar 7;");
        at(1, "kind a^1 most 5;");
        at(1, "rate 1^for all;");
        at(1, "work 5^rest 5;");
        at(1, "shut 0^to 1 from 5 to 7;");
        at(1, "shut 0 to^1 from 5 to 7;");
        at(1, "rate 1 for turn=1^and all;");
        at(1, "^kinda most 5;");
        at(1, "rate 1 ^2 for all;");
    }

    private static void noStatement() {
        by("II: { STATEMENT ; }");
        good("", 0);
        good(" ", 0);
        good("\n", 0);
        good(repeat(" ", 1000), 0);
        at(1, "^;");
        at(1, "bar 7;^;");
        at(1, "bar 7^");
        at(1, "bar 7 ^bar 7;");
        good(repeat(" ", 994) + "bar 7;", 1);
        at(1, repeat(" ", 995) + "bar 7^");
    }

    private static void eightKinds() {
        by("II: a KIND of load (8 at most)");
        String seven = repeat("kind k? most 5;", 7);
        good(seven, 7);
        good(seven + "kind kh most 5;", 8);
        at(5, seven + "kind kh most 5;^kind ki most 5;");
        CartFellows x = Checks.with(seven + "kind kh most 5;");
        due("8", x.all(1), 8);
        due("the last of them", x.name(false, 7, 1), 'h');
        due("told", x.told(0, 0, 7, 1, 1, 1, 1, true), 1);
        due("a 9th told", x.told(0, 0, 8, 1, 1, 1, 1, true), NONE);
    }

    private static void mostOfAKind() {
        by("II: of which a cart carries so much at most (1 .. 999)");
        at(4, "kind a most ^0;");
        at(4, "kind a most ^00000;");
        at(4, "kind a most ^1000;");
        at(4, "kind a most ^99999;");
        int[] most = {1, 2, 998, 999};
        for (int weight : most) {
            CartFellows x = Checks.with("kind a most " + weight + ";");
            x.street(0, 1, 1, 1);
            x.stand(0);
            x.cart(0, 1);
            due("a call", x.call(0, 0, 1, 0, weight), 0);
            due("as much as " + weight, x.run(true), 1);
            x.call(0, 0, 1, 0, weight + 1);
            due("above " + weight, x.run(true), 1);
        }
    }

    private static void placesShut() {
        by("II: the PLACE of the first number to that of the second one (0 .. 11, unlike)");
        good("shut 0 to 11 from 5 to 7;shut 11 to 0 from 5 to 7;shut 10 to 11 from 5 to 7;", 3);
        at(4, "shut ^12 to 0 from 5 to 7;");
        at(4, "shut 0 to ^12 from 5 to 7;");
        at(4, "shut ^99999 to 0 from 5 to 7;");
        at(4, "shut 0 to ^0 from 5 to 7;");
        at(4, "shut 11 to ^11 from 5 to 7;");
        at(4, "shut 3 to ^00003 from 5 to 7;");
        CartFellows x = Checks.with("shut 11 to 0 from 5 to 7;");
        x.street(0, 11, 1, 1);
        due("from 11 to 0", x.shut(11, 0, 6), 1);
        due("from 0 to 11", x.shut(0, 11, 6), 0);
    }

    private static void minutesShut() {
        by("II: from the minute of the third number up to that of the fourth one (0 .. 1439, not ahead)");
        good("shut 0 to 1 from 0 to 0;shut 0 to 1 from 1439 to 1439;shut 0 to 1 from 0 to 1439;", 3);
        good("shut 0 to 1 from 700 to 700;", 1);
        at(4, "shut 0 to 1 from ^1440 to 1439;");
        at(4, "shut 0 to 1 from 1439 to ^1440;");
        at(4, "shut 0 to 1 from 700 to ^699;");
        at(4, "shut 0 to 1 from 1 to ^0;");
        CartFellows x = Checks.with("shut 0 to 1 from 700 to 700;");
        x.street(0, 1, 1, 1);
        due("ahead", x.shut(0, 1, 699), 0);
        due("from there up to there", x.shut(0, 1, 700), 1);
        due("behind", x.shut(0, 1, 701), 0);
    }

    private static void allRates() {
        by("III: Its RATE: all rates whose TEST holds, 0 at least");
        due("none", rateBy(""), 0);
        due("those that hold", rateBy("rate 5 for all;rate 70 for not all;rate 900 for all;"), 905);
        due("one is below 0", rateBy("rate 5 for all;rate 0-3 for all;"), 2);
        due("first below 0, in all above", rateBy("rate 0-3 for all;rate 5 for all;"), 2);
        due("in all 0", rateBy("rate 0-5 for all;rate 5 for all;"), 0);
        due("in all below", rateBy("rate 0-6 for all;rate 5 for all;"), 0);
        due("one below 0 that does not hold", rateBy("rate 0-6 for not all;rate 5 for all;"), 5);
        due("30 of the greatest", rateBy(repeat("rate 99999*999 for all;", 30)), 300000000);
        due("30 of the least", rateBy(repeat("rate 0-99999*999 for all;", 30)), 0);
    }

    private static void finesAtLeast0() {
        by("II: such a CARRIAGE has this FINE, so much (0 at least)");
        CartFellows x = Checks.with("kind a most 5;fine f is wait-5 for all;fine g is 3 for all;");
        for (int wait = 0; wait <= 10; wait += 5) {
            int act = x.told(0, wait, 0, 1, 1, 1, wait, true);
            due("fine with a wait of " + wait, x.fine(act, 0), Math.max(wait - 5, 0));
            due("it takes nothing from others", x.fines(wait), Math.max(wait - 5, 0) + 3);
        }
    }

    private static void twelveFines() {
        by("II: 12 FINES at most");
        String eleven = repeat("fine f? is 5 for all;", 11);
        good(eleven, 11);
        good(eleven + "fine fl is 5 for all;", 12);
        at(5, eleven + "fine fl is 5 for all;^fine fm is 5 for all;");
        CartFellows x = Checks.with(eleven + "fine fl is 7 for all;kind a most 5;");
        due("12", x.all(2), 12);
        due("the last of them", x.name(true, 11, 1), 'l');
        x.told(0, 0, 0, 1, 1, 1, 1, true);
        due("the last of them", x.fine(1, 11), 7);
        due("a 13th", x.fine(1, 12), NONE);
        due("in all", x.fines(0), 62);
        due("appealed", x.appeal(1, 11), 2);
        due("in all but that", x.fines(0), 55);
    }

    /** A cart at PLACE 0 that is called to PLACE 1, 5 minutes off, at minute after minute: when it begins to load there. */
    private static void begins(String laws, int[] minutes, int[] want) {
        CartFellows x = Checks.with("kind a most 9;load 0;" + laws);
        x.street(0, 1, 5, 1);
        x.stand(0);
        x.cart(0, 1);
        for (int minute : minutes) {
            x.call(minute, 1, 0, 0, 1);
        }
        x.run(true);
        for (int call = 0; call < minutes.length; call++) {
            due(laws + " call " + call, x.taken(call, 1), want[call]);
        }
    }

    private static void hoursOfWork() {
        by("II: how long a horse works (1 .. 1440; 1440 at first; the last one counts)");
        at(4, "work ^0 rest 5;");
        at(4, "work ^1441 rest 5;");
        good("work 1 rest 5;work 1440 rest 5;", 2);
        begins("work 1 rest 600;", new int[] {0, 1}, new int[] {5, 615});
        begins("work 10 rest 600;", new int[] {0, 1}, new int[] {5, 615});
        begins("work 11 rest 600;", new int[] {0, 1, 2}, new int[] {5, 15, 625});
        begins("work 1 rest 600;work 11 rest 600;", new int[] {0, 1, 2}, new int[] {5, 15, 625});
        begins("work 11 rest 600;work 1 rest 600;", new int[] {0, 1}, new int[] {5, 615});
        begins("", new int[] {0, 1, 2, 3}, new int[] {5, 15, 25, 35});
        // 23 calls of 62 minutes: 1426 of work are below 1440
        due("1440 at first", longDay("load 26;"), 1426);
        due("1440", longDay("load 26;work 1440 rest 600;"), 1426);
        due("1426", longDay("load 26;work 1426 rest 600;"), 1364);
        due("1427", longDay("load 26;work 1427 rest 600;"), 1426);
    }

    /** When the last of 24 calls of 62 minutes each begins to be loaded at a stand. */
    private static int longDay(String laws) {
        CartFellows x = Checks.with("kind a most 9;" + laws);
        x.street(0, 1, 5, 1);
        x.stand(0);
        x.cart(0, 1);
        for (int call = 0; call < 24; call++) {
            x.call(0, 0, 1, 0, 1);
        }
        int last = NONE;
        x.run(true);
        for (int call = 0; call < 24; call++) {
            last = Math.max(last, x.taken(call, 1));
        }
        return last;
    }

    private static void hoursOfRest() {
        by("II: and rests (0 .. 600; 0 at first; the last one counts)");
        at(4, "work 5 rest ^601;");
        at(4, "work 5 rest ^99999;");
        good("work 5 rest 0;work 5 rest 600;", 2);
        begins("work 1 rest 0;", new int[] {0, 1, 2}, new int[] {5, 15, 25});
        begins("work 1 rest 1;", new int[] {0, 1, 2}, new int[] {5, 16, 27});
        begins("work 1 rest 600;", new int[] {0, 1, 2}, new int[] {5, 615, 1225});
        begins("work 1 rest 600;work 1 rest 7;", new int[] {0, 1}, new int[] {5, 22});
        begins("work 1 rest 0;work 1 rest 600;", new int[] {0, 1}, new int[] {5, 615});
    }

    /** How long loading and unloading of a weight lasts. */
    private static int handling(String laws, int weight) {
        CartFellows x = Checks.with("kind a most 999;" + laws);
        x.street(0, 1, 5, 1);
        x.stand(0);
        x.cart(0, 1);
        x.call(0, 0, 1, 0, weight);
        x.run(true);
        return x.taken(0, 6) - 5;
    }

    private static void minutesOfLoad() {
        by("II: so many minutes for each 10 of a load to load and to unload it (0 .. 60; 1 at first; the last one counts)");
        at(4, "load ^61;");
        at(4, "load ^99999;");
        good("load 0;load 60;", 2);
        due("at first", handling("", 10), 2);
        due("0", handling("load 0;", 999), 0);
        due("1", handling("load 1;", 10), 2);
        due("60", handling("load 60;", 10), 120);
        due("60 of the greatest", handling("load 60;", 999), 12000);
        due("the last one", handling("load 60;load 2;", 10), 4);
        due("the last one", handling("load 2;load 60;", 10), 120);
        due("the last one is 0", handling("load 2;load 0;", 10), 0);
    }

    private static void whole10s() {
        by("II: for each 10 of a load, begun ones whole");
        int[] weights = {1, 9, 10, 11, 19, 20, 21, 990, 991, 999};
        int[] tens = {1, 1, 1, 2, 2, 2, 3, 99, 100, 100};
        for (int i = 0; i < weights.length; i++) {
            due("weight " + weights[i], handling("load 3;", weights[i]), 2 * 3 * tens[i]);
        }
    }

    private static void barOfCarts() {
        by("II: a cart with FINES above that (0 .. 99999) is BARRED (the last one counts; without any none is)");
        good("bar 0;bar 99999;", 2);
        String laws = "kind a most 5;fine f is yards*10+wait for all;";
        due("as much as 0", barred(laws + "bar 0;", 0, 0), 0);
        due("above 0", barred(laws + "bar 0;", 0, 1), 1);
        due("as much as 99999", barred(laws + "bar 99999;", 9999, 9), 0);
        due("above 99999", barred(laws + "bar 99999;", 9999, 10), 1);
        due("the last one", barred(laws + "bar 0;bar 5;", 0, 5), 0);
        due("the last one", barred(laws + "bar 5;bar 0;", 0, 5), 1);
        due("the last one is 0", barred(laws + "bar 5;bar 0;", 0, 0), 0);
        due("without any", barred(laws, 9999, 9999), 0);
        due("without any, no fines", barred(laws, 0, 0), 0);
    }

    private static int barred(String laws, int yards, int wait) {
        CartFellows x = Checks.with(laws);
        x.told(0, 3, 0, 1, yards, 0, wait, true);
        return x.barred(3);
    }

    // ---- Term II: TESTS and SUMS

    private static void precedenceOfTests() {
        by("II: TEST: BOTH { or BOTH }. BOTH: FACT { and FACT }. FACT: not FACT; [ TEST ]; all");
        test("all", true);
        test("not all", false);
        test("not not all", true);
        test("not not not all", false);
        test("all or all and not all", true);
        test("not all and all or all", true);
        test("[all or all] and not all", false);
        test("all and [not all or all]", true);
        test("not all or all", true);
        test("not [all or all]", false);
        test("not all and not all", false);
        test("not [all and not all]", true);
        test("not all or not all or all", true);
        test("not all or not all or not all", false);
        test("all and all and not all", false);
        test("all and all and all", true);
        test("[[[all]]]", true);
        test("not yards<0", true);
    }

    private static void signs() {
        by("II: SUM SIGN SUM, SIGN being < or > or =");
        test("wait<43", false);
        test("wait<44", false);
        test("wait<45", true);
        test("wait>43", true);
        test("wait>44", false);
        test("wait>45", false);
        test("wait=43", false);
        test("wait=44", true);
        test("wait=45", false);
        test("0-1<0", true);
        test("0>0-1", true);
        test("1+1=2*1", true);
        test("(wait)=(wait)", true);
        String[] wrong = {"wait<44", "wait>44", "wait=43"};
        for (String fact : wrong) {
            test(fact + " and all", false);
            test("all and " + fact, false);
            test(fact + " or all", true);
            test(fact + " or not all", false);
            test("not " + fact, true);
            test("not not " + fact, false);
        }
        at(1, "rate 1 for wait ^;");
        at(1, "rate 1 for wait<^=5;");
        at(1, "rate 1 for 1<2^<3;");
        at(1, "rate 1 for all^=all;");
        at(1, "rate 1 for [wait^]<5;");
        at(1, "rate 1 for (wait^<5);");
    }

    private static void isKind() {
        by("II: is NAME (the KIND)");
        test("is a", false);
        test("is b", true);
        test("is c", false);
        test("not is c", true);
        test("is a or is b", true);
    }

    private static void precedenceOfSums() {
        by("II: SUM: PRODUCT { + PRODUCT, or - PRODUCT }. PRODUCT: PART { * PART, or / PART }. PART: NUMBER; yards; weight; minute; wait; turn");
        sum("yards", 1200);
        sum("weight", 37);
        sum("minute", 700);
        sum("wait", 44);
        sum("turn", 1);
        sum("2+3*4", 14);
        sum("2*3+4", 10);
        sum("20-6/3", 18);
        sum("(2+3)*4", 20);
        sum("2*(3+4)", 14);
        sum("((((5))))", 5);
        sum("0", 0);
        sum("99999", 99999);
        CartFellows x = Checks.with("kind a most 5;rate 7-turn for all;");
        x.told(0, 0, 0, 1, 1, 1, 1, true);
        x.told(0, 0, 0, 1, 1, 1, 1, false);
        due("its turn: 1", x.rate(1), 6);
        due("not its turn: 0", x.rate(2), 7);
    }

    private static void minAndMax() {
        by("II: min ( SUM , SUM ) ; max ( SUM , SUM )");
        sum("min(3,4)", 3);
        sum("min(4,3)", 3);
        sum("min(4,4)", 4);
        sum("max(3,4)", 4);
        sum("max(4,3)", 4);
        sum("max(4,4)", 4);
        sum("min(0-3,0-4)", -4);
        sum("max(0-3,0-4)", -3);
        sum("min(1+5,2*4)+max(min(1,2),3)", 9);
        at(1, "rate min(1^) for all;");
        at(1, "rate min(1,2^,3) for all;");
        at(1, "rate min(^) for all;");
        at(1, "rate min ^1 for all;");
        at(1, "rate (1^,2) for all;");
    }

    private static void fromTheLeft() {
        by("II: All from the left on");
        sum("10-3-2", 5);
        sum("10-3+2", 9);
        sum("100/10/5", 2);
        sum("7/2*2", 6);
        sum("2*7/2", 7);
        sum("8/4*2/3", 1);
        sum("10000*1000+1-1", 9999999);
        sum("1-1+10000*1000", 10000000);
        sum("99999*999/1000", 10000);
    }

    private static void wholeNotAbove() {
        by("II: / gives the greatest whole number not above");
        sum("6/3", 2);
        sum("7/3", 2);
        sum("8/3", 2);
        sum("9/3", 3);
        sum("(0-6)/3", -2);
        sum("(0-7)/3", -3);
        sum("(0-8)/3", -3);
        sum("7/(0-3)", -3);
        sum("6/(0-3)", -2);
        sum("(0-7)/(0-3)", 2);
        sum("(0-6)/(0-3)", 2);
        sum("1/2", 0);
        sum("(0-1)/2", -1);
        sum("0/5", 0);
        sum("0/(0-5)", 0);
        sum("(0-10000*1000)/(0-1)", 10000000);
    }

    private static void byZero() {
        by("II: by 0 it gives 0");
        sum("7/0", 0);
        sum("(0-7)/0", 0);
        sum("0/0", 0);
        sum("5+7/0", 5);
        sum("7/(turn-1)", 0);
        sum("7/0*3+2", 2);
        test("yards/0=0", true);
    }

    private static void boundsOfSums() {
        by("II: each sum, difference, product above 10 to the 7 is that, below -10 to the 7 likewise");
        sum("99999*100", 9999900);
        sum("99999*100+99", 9999999);
        sum("99999*100+100", 10000000);
        sum("99999*100+101", 10000000);
        sum("99999*100+101-1", 9999999);
        sum("99999*100-(0-101)-1", 9999999);
        sum("10000*1000", 10000000);
        sum("10000*1001", 10000000);
        sum("10000*1001-10000", 9990000);
        sum("99999*99999", 10000000);
        sum("99999*99999*99999", 10000000);
        sum("99999*99999/10", 1000000);
        sum("0-99999*100-100", -10000000);
        sum("0-99999*100-101", -10000000);
        sum("0-99999*100-101+1", -9999999);
        sum("0-99999*100+(0-101)+1", -9999999);
        sum("(0-99999)*99999", -10000000);
        sum("(0-99999)*99999+1", -9999999);
        sum("(0-99999)*(0-99999)", 10000000);
        sum("10000*1000*10000*(0-1000)", -10000000);
        sum("0-10000*1000-10000*1000", -10000000);
        sum("10000*1000+10000*1000", 10000000);
        sum("min(99999*101,99999*102)", 10000000);
        test("99999*101=99999*102", true);
        test("99999*100<99999*101", true);
        test("0-99999*101=0-99999*102", true);
    }

    // ---- Term II: NAMES and limits

    private static void ownWords() {
        by("II: OWN WORDS, which no NAME is");
        for (String word : OWN) {
            at(1, "kind ^" + word + " most 5;");
            at(1, "fine ^" + word + " is 5 for all;");
            at(1, "kind a most 5;rate 5 for is ^" + word + ";");
            good("kind " + word + "x most 5;", 1);
            good("kind x" + word + " most 5;rate 1 for is x" + word + ";", 2);
            String part = word.substring(0, word.length() - 1);
            boolean isOwn = part.equals("min") || part.equals("i");
            if (!isOwn) {
                good("kind " + part + " most 5;", 1);
            }
        }
        good("kind i most 5;kind minut most 5;kind mini most 5;kind ward most 5;", 4);
    }

    private static void namesUnlike() {
        by("II: NAMES of KINDS and FINES are unlike one another, all of them");
        good("kind a most 5;kind b most 5;fine c is 5 for all;fine d is 5 for all;", 4);
        good("kind abcdefgh most 5;kind abcdefg most 5;kind abcdefgi most 5;fine bbcdefgh is 5 for all;fine aa is 5 for all;", 5);
        at(2, "kind a most 5;kind b most 5;kind ^b most 5;");
        at(2, "kind a most 5;kind b most 5;kind ^a most 5;");
        at(2, "kind a most 5;fine ^a is 5 for all;");
        at(2, "fine a is 5 for all;kind ^a most 5;");
        at(2, "fine a is 5 for all;fine b is 5 for all;fine ^b is 5 for all;");
        at(2, "kind abcdefgh most 5;fine ^abcdefgh is 5 for all;");
        CartFellows x = Checks.with("kind a most 5;");
        due("a new text begins anew", Checks.laws(x, "kind a most 5;fine b is 5 for all;"), 2);
        due("also behind a fault", Checks.laws(x, "kind c most 5;kind c most 5;"), NONE);
        due("also behind a fault", Checks.laws(x, "kind c most 5;kind b most 5;"), 2);
    }

    private static void thirtyOthers() {
        by("II: At most 30 STATEMENTS that are no kind, no fine");
        String[] others = {"bar 5;", "load 5;", "rate 5 for all;", "work 5 rest 5;", "shut 0 to 1 from 0 to 0;"};
        String[] kindsAndFines = {"kind a most 5;", "fine b is 1 for all;"};
        for (String other : others) {
            String thirty = repeat(other, 30);
            good(thirty, 30);
            at(5, thirty + "^" + other);
            good(thirty + kindsAndFines[0] + kindsAndFines[1], 32);
            good(kindsAndFines[0] + thirty + kindsAndFines[1], 32);
        }
        String mixed = repeat("bar 5;load 5;rate 5 for all;work 5 rest 5;shut 0 to 1 from 0 to 0;", 6);
        good(mixed, 30);
        CartFellows x = Checks.with(mixed);
        due("30", x.all(3), 30);
        for (String other : others) {
            at(5, mixed + "^" + other);
        }
        x = Checks.with(repeat("shut 1 to 0 from 0 to 0;", 29) + "shut 0 to 1 from 7 to 7;");
        x.street(0, 1, 1, 1);
        due("the 30th holds", x.shut(0, 1, 7), 1);
    }

    private static void openAtOnce() {
        by("II: 8 ( [ that are open at once, together");
        good("rate ((((((((1)))))))) for all;", 1);
        good("rate 1 for [[[[[[[[all]]]]]]]];", 1);
        good("rate 1 for [[[[((((1))))=1]]]];", 1);
        good("rate 1 for [[[[1=((((1))))]]]];", 1);
        good("rate min((((((((1))))))),(((((((1)))))))) for all;", 1);
        good("rate " + repeat("(1)+", 20) + "((((((((1)))))))) for " + repeat("[all] and ", 20) + "((((((((1))))))))=((((((((1))))))));", 1);
        at(5, "rate ((((((((^(1))))))))) for all;");
        at(5, "rate 1 for [[[[[[[[^[all]]]]]]]]];");
        at(5, "rate 1 for [[[[((((^(1)))))=1]]]];");
        at(5, "rate 1 for [[[[[[[[^(1)=1]]]]]]]];");
        at(5, "rate 1 for [[[[1=((((^(1)))))]]]];");
        at(5, "rate min(1,(((((((^(1)))))))) for all;");
        at(5, "rate max(1,(((((((^(1)))))))) for all;");
        at(5, "rate ((((((((min^(1,1))))))))) for all;");
    }

    // ---- Term II: FAULTS

    private static void firstAlongTheText() {
        by("II: FAULTS, the first along the text");
        at(4, "kind a most ^0;kind a most 5;x");
        at(2, "kind a most 5;kind ^a most 0;");
        at(1, "kind a ^5;kind a most 5;");
        at(3, "rate 1 for is ^a;bar 123456;");
        at(5, repeat("kind k? most 5;", 8) + "^kind ka most 0;");
        at(1, "rate (((((((( ^;rate (((((((((1");
        at(4, "shut ^12 to 12 from 1440 to 1440;");
        at(4, "shut 0 to ^12 from 1440 to 1440;");
        at(4, "shut 0 to 1 from ^1440 to 1440;");
    }

    private static void firstByte() {
        by("II: 1 the first byte with which no TEXT goes on");
        at(1, "^!");
        at(1, "^5;");
        at(1, "^(");
        at(1, "bar ^;");
        at(1, "bar 5 ^,");
        at(1, "kind a most 5;^" + (char) 0);
        at(1, "kind a most 5;^" + (char) 255);
        at(1, "kind a most 5;^" + (char) 128);
        at(1, "rate 1 for all ^);");
        at(1, "rate 1 for all ^];");
        at(1, "rate 1 for [all ^);");
        at(1, "rate (1 ^] for all;");
        at(1, "rate 1+^*2 for all;");
        at(1, "rate ^-1 for all;");
        at(1, "rate 1 for all ^all;");
        at(1, "rate 1 for all and ^and all;");
        at(1, "rate ^all for all;");
        at(1, "rate 1 for not ^or;");
        at(1, "fine a is 5 for (^all);");
        at(1, "fine a is ^[5] for all;");
    }

    private static void wholeWords() {
        by("II: (WORDS, NUMBERS whole, at their first byte)");
        at(1, "^kine a most 5;");
        at(1, "^kin");
        at(1, "^kinds a most 5;");
        at(1, "kind a ^mosts 5;");
        at(1, "kind a ^mo 5;");
        at(1, "kind a most ^five;");
        at(1, "kind ^12345 most 5;");
        at(1, "work 5 ^12345;");
        at(1, "rate 1 for turn=1 ^ant all;");
        at(1, "rate ^yard for all;");
        at(1, "rate ^minutes for all;");
        at(1, "rate ^abcdefgh for all;");
        at(1, "bar 5;^abcdefgh");
    }

    private static void tooSoon() {
        by("II: at the text's length, if it ends too soon");
        String text = "kind ab most 5;shut 0 to 11 from 5 to 77;rate min(1,max(yards,weight))*(2+minute)/wait-turn for "
            + "not [all or is ab and 3<4] and 5=6;fine cd is 7 for all;work 9 rest 10;load 3;bar 12;";
        String opens = "";
        for (int n = 0; n < text.length(); n++) {
            String part = text.substring(0, n);
            boolean isAfterStatement = part.isEmpty() || part.endsWith(";");
            int begin = n;
            while (begin > 0 && Character.isLowerCase(text.charAt(begin - 1))) {
                begin--;
            }
            int end = n;
            while (Character.isLowerCase(text.charAt(end))) {
                end++;
            }
            String read = text.substring(begin, n);
            String word = text.substring(begin, end);
            boolean isCut = !read.isEmpty() && !read.equals(word) && !word.equals("ab") && !word.equals("cd") && !read.equals("min");
            boolean isNoKind = word.equals("ab") && read.equals("a") && n > 20;
            if (isAfterStatement) {
                good(part, part.length() - part.replace(";", "").length());
            } else {
                bad(part, isNoKind ? 3 : 1, isCut || isNoKind ? begin : n);
            }
            opens = part;
        }
        due("all of it was cut", opens.length(), text.length() - 1);
        good(text, 7);
        for (String word : OWN) {
            boolean begins = "kind fine shut rate work load bar ".contains(word + " ");
            bad(repeat(" ", 1000 - word.length()) + word, 1, begins ? 1000 : 1000 - word.length());
            bad(repeat(" ", 1001 - word.length()) + word.substring(0, word.length() - 1), 1, 1001 - word.length());
        }
        bad("kind", 1, 4);
        bad("kind \n ", 1, 7);
        bad("bar 5" + repeat(" ", 995), 1, 1000);
        at(1, "rate 1 for [all^");
        at(1, "rate (1^");
    }

    private static void tooLong() {
        by("II: a 9th letter, a 6th digit at itself, whatever may stand there");
        at(1, "abcdefgh^i");
        at(1, "12345^6");
        at(1, "kindkind^k");
        at(1, "kind abcdefgh^ijklmnop most 5;");
        at(1, "kind 12345^6 most 5;");
        at(1, "kind a abcdefgh^i 5;");
        at(1, "kind a 12345^6 5;");
        at(1, "kind a most abcdefgh^i;");
        at(1, "kind a most 00000^5;");
        at(1, "kind a most 99999^9;");
        at(1, "kind a most 5 12345^6;");
        at(1, "kind a most 5 abcdefgh^i;");
        at(1, "bar 5;abcdefgh^i");
        at(1, "bar 5;12345^6");
        at(1, "rate 12345^6 for all;");
        at(1, "rate 1 for is abcdefgh^i;");
        at(1, "kind abcdefgh most 5;kind abcdefgh^i");
        at(1, "rate (((((((( 12345^6");
        at(1, repeat("kind k? most 5;", 8) + "kindkind^k");
        at(1, repeat(" ", 988) + "bar 5;12345^6");
    }

    private static void ownWordForName() {
        by("II: an OWN WORD where a NAME must be");
        for (String word : OWN) {
            at(1, "kind b most 5;kind ^" + word + ";");
            at(1, "kind b most 5;fine ^" + word);
            at(1, "rate 5 for not is ^" + word + " and all;");
        }
    }

    private static void nameThere() {
        by("II: 2 a NAME of a new KIND or FINE that is there already, at its first byte");
        at(2, "kind ab most 5;kind   ^ab most 5;");
        at(2, "kind ab most 5;kind ^ab");
        at(2, "kind ab most 5;kind ^ab;");
        at(2, "kind ab most 5;fine ^ab 5");
        at(2, "fine ab is 1 for all;kind ^ab");
        at(2, "fine ab is 1 for all;fine ^ab is 5 for is ab;");
        at(2, "kind ab most 5;kind ^ab5 most 5;");
        at(1, "kind ab most 5;kind abc most ^;");
        at(1, "kind ab most 5;kind a most ^;");
        at(1, "kind ab most 5;kind ^most most 5;");
    }

    private static void noKindAhead() {
        by("II: 3 a NAME behind is in a TEST that no KIND ahead has, at its first byte");
        at(3, "rate 1 for is ^a;");
        at(3, "rate 1 for is  ^a");
        at(3, "rate 1 for is ^a;kind a most 5;");
        at(3, "kind aa most 5;rate 1 for is ^a;");
        at(3, "kind a most 5;rate 1 for is ^aa;");
        at(3, "kind a most 5;fine f is 1 for all;rate 1 for is ^f;");
        at(3, "kind a most 5;fine f is 1 for is ^f;");
        at(3, "kind a most 5;rate 1 for is a and not [is ^b");
        good("kind a most 5;kind b most 5;rate 1 for is a or is b;kind c most 5;fine f is 1 for is c;", 5);
        CartFellows x = Checks.with("kind a most 5;");
        due("kinds of other by-laws", Checks.laws(x, "rate 1 for is a;"), NONE);
        due("kinds of other by-laws", x.fault(0), 3);
    }

    private static void wrongNumber() {
        by("II: 4 a NUMBER that can't be, at its first byte");
        String[] texts = {"kind a most ^0;", "kind a most ^1000;", "kind a most  ^01000", "shut ^12 to 1 from 5 to 7;",
            "shut 1 to ^12 from 5 to 7;", "shut 1 to ^1 from 5 to 7;", "shut 1 to 2 from ^1440 to 7;",
            "shut 1 to 2 from 5 to ^1440;", "shut 1 to 2 from 5 to ^4;", "work ^0 rest 5;", "work ^1441 rest 5;",
            "work 5 rest ^601;", "load ^61;", "load ^61", "bar 5;load ^99999x", "shut 1 to ^1x"};
        for (String text : texts) {
            at(4, text);
        }
        good("rate 0 for 99999>0;rate 99999 for all;fine f is 99999 for 0=0;", 3);
    }

    private static void tooMany() {
        by("II: 5 a 9th KIND, a 13th FINE, a 31st other STATEMENT, at its first byte");
        String kinds = repeat("kind k? most 5;", 8);
        String fines = repeat("fine f? is 5 for all;", 12);
        String others = repeat("bar 5;", 30);
        at(5, kinds + " ^kind");
        at(5, kinds + "^kind ka most 5;");
        at(5, fines + "\n^fine");
        at(5, fines + "^fine fa is 5 for all;");
        at(5, others + "  ^bar");
        at(5, others + "^rate (((((((((1");
        at(5, others + "^shut 12 to 12");
        good(kinds + fines + others, 50);
        at(5, kinds + fines + others + "^kind");
        at(5, kinds + fines + others + "^fine");
        at(5, kinds + fines + others + "^load");
        at(1, kinds + fines + others + "^loads");
        at(1, kinds + fines + others + "^;");
    }

    private static void openTooMuch() {
        by("II: what is open too much, at its sign");
        at(5, "rate (((((((( ^(1");
        at(5, "rate (((((((( ^(");
        at(5, "rate 1 for [[[[[[[[ ^[");
        at(5, "rate 1 for [[[[[[[[ min ^(");
        at(1, "rate 1 for [[[[[[[[ min ^1");
        at(1, "rate (((((((( ^[");
        at(1, "rate (((((((( ^)");
    }

    // ---- promises 5 to 7, 15

    private static void statements() {
        by("5: The tape is THE BY-LAWS: how many STATEMENTS");
        good("", 0);
        good("bar 5;", 1);
        good("kind a most 5;fine f is 1 for all;bar 5;load 5;work 5 rest 5;shut 0 to 1 from 0 to 0;rate 1 for all;", 7);
        good(repeat("kind k? most 5;", 8) + repeat("fine f? is 5 for all;", 12) + repeat("bar 5;", 30), 50);
        CartFellows x = new CartFellows();
        x.feed(0x62617220, 0x373b2020, 0x20202020, 0x20202020, 0x20202020);
        x.end(6);
        due("a tape without blanks behind", x.laws(), 1);
    }

    private static CartFellows busy() {
        CartFellows x = Checks.with("kind a most 50;fine f is wait for all;bar 6;load 2;shut 0 to 1 from 5 to 9;rate yards for all;");
        x.street(0, 1, 5, 5);
        x.street(1, 2, 5, 5);
        x.stand(0);
        x.wharf(1, true);
        x.cart(0, 1);
        x.cart(0, 1);
        x.call(5, 0, 1, 0, 5);
        x.told(1, 2, 0, 5, 5, 5, 7, true);
        x.told(1, 3, 0, 5, 5, 5, 7, true);
        x.as(1);
        x.run(true);
        x.plan(1);
        return x;
    }

    private static CartFellows book(int acts) {
        CartFellows x = Checks.with("kind a most 50;fine f is wait for all;");
        for (int act = 1; act <= acts; act++) {
            x.told(0, act % 2, 0, 5, 5, 5, 7, true);
        }
        return x;
    }

    private static void faultLeavesAll() {
        by("5: -1 with a FAULT (all stays)");
        String[] texts = {"kind b most 7;x", "kind b most 5;kind b most 5;", "rate 1 for is b;", "bar 5;load 61;",
            repeat("bar 5;", 31), "fine g is 9 for all;work 1 rest 1;load 9;bar 0;shut 1 to 0 from 0 to 1439;rate 1 for all;;"};
        for (String text : texts) {
            CartFellows x = busy();
            int[] before = told(x);
            due("laws of " + text, Checks.laws(x, text), NONE);
            int[] behind = told(x);
            for (int i = 0; i < before.length; i++) {
                due("answer " + i + " behind " + text, behind[i], before[i]);
            }
        }
        int[] all = told(busy());
        due("there was something to stay", all[0] + all[1] + all[4], 2 + 1 + 2);
    }

    private static int[] told(CartFellows x) {
        int[] answers = new int[40];
        for (int what = 0; what <= 8; what++) {
            answers[what] = x.all(what);
        }
        answers[9] = x.name(false, 0, 0);
        answers[10] = x.name(true, 0, 0);
        answers[11] = x.shut(0, 1, 5);
        answers[12] = x.shut(1, 0, 5);
        answers[13] = x.drive(0, 1, 5, 0);
        answers[14] = x.rate(1);
        answers[15] = x.fine(1, 0);
        answers[16] = x.fines(2);
        answers[17] = x.fines(3);
        answers[18] = x.barred(2);
        answers[19] = x.barred(3);
        answers[20] = x.taken(0, 0);
        answers[21] = x.taken(0, 6);
        answers[22] = x.cartOf(1, 4);
        answers[23] = x.day(1);
        answers[24] = x.wear(0);
        answers[25] = x.part(10, 0);
        answers[26] = x.gains(0);
        answers[27] = x.planned();
        answers[28] = x.plan(1);
        answers[29] = x.wharf(1, true) ? 1 : 0;
        answers[30] = x.stand(0);
        answers[31] = x.name(false, 1, 0);
        answers[32] = x.name(true, 1, 0);
        answers[33] = x.right(1);
        answers[34] = x.quarrels();
        return answers;
    }

    private static void whatGoes() {
        by("5: without one ACTS, carts, CALLS go, as() is NONE, there is no run()");
        String[] texts = {"", "kind a most 50;fine f is wait for all;bar 6;load 2;rate yards for all;", "bar 5;"};
        for (String text : texts) {
            CartFellows x = busy();
            Checks.laws(x, text);
            due("acts", x.all(4), 0);
            due("an act", x.rate(1), NONE);
            due("a witness of an act that went", x.witness(1, true), NONE);
            due("fines", x.fines(2), 0);
            due("barred", x.barred(2), 0);
            due("quarrels", x.quarrels(), 0);
            due("carts", x.all(7), 0);
            due("calls", x.all(8), 0);
            due("no plan", x.plan(1), NONE);
            due("taken", x.taken(0, 0), NONE);
            due("cartOf", x.cartOf(0, 0), NONE);
            due("day", x.day(3), NONE);
            due("wear", x.wear(0), NONE);
            due("part", x.part(10, 0), NONE);
            due("gains", x.gains(0), -2000000001);
            due("book", x.book(), NONE);
            due("a cart", x.cart(0, 1), 0);
        }
        CartFellows x = busy();
        x.as(0);
        Checks.laws(x, "kind a most 50;fine f is wait for all;");
        due("the first act", x.told(0, 2, 0, 5, 5, 5, 7, true), 1);
        due("as() is NONE", x.all(5), 1);
        due("as() is NONE", x.fines(2), 7);
        x = book(8);
        for (int act = 1; act <= 4; act++) {
            x.annul(act);
        }
        Checks.laws(x, "kind a most 50;fine f is wait for all;");
        due("the first act", x.told(0, 2, 0, 5, 5, 5, 7, true), 1);
        due("it is not void", x.fines(2), 7);
        due("another", x.told(0, 3, 0, 5, 5, 5, 7, true), 2);
        due("a quarrel", x.right(0), 1);
        due("a witness", x.witness(2, true), 3);
        due("it is not void", x.right(0), 2);
        due("it can be void", x.annul(1), 4);
        x = busy();
        Checks.laws(x, "kind b most 50;");
        due("a kind of theirs", x.name(false, 0, 0), 'b');
        due("no fines", x.all(2), 0);
        due("no others", x.all(3), 0);
        due("not shut", x.shut(0, 1, 5), 0);
        due("without a rate", x.rate(x.told(0, 2, 0, 5, 5, 5, 7, true)), 0);
        x.cart(0, 1);
        x.call(0, 0, 1, 0, 30);
        x.run(true);
        due("load is 1 again", x.taken(0, 6), 3 + 5 + 3);
        x = Checks.with("kind a most 9;work 1 rest 600;load 0;");
        Checks.laws(x, "kind a most 9;load 0;");
        x.street(0, 1, 5, 1);
        x.stand(0);
        x.cart(0, 1);
        x.call(0, 1, 0, 0, 1);
        x.call(0, 1, 0, 0, 1);
        due("work is 1440 again, rest 0", x.run(true), 2);
        due("work is 1440 again, rest 0", x.taken(1, 1), 15);
    }

    private static void noneOfThoseAhead() {
        by("5: The tape is THE BY-LAWS (nothing is left of those ahead, nor of a text with a FAULT)");
        String full = "kind aaa most 5;kind bb most 5;kind cc most 5;fine ff is 3 for all;fine gg is 4 for all;"
            + "shut 0 to 1 from 0 to 1439;rate 9 for all;rate 9 for all;work 1 rest 600;load 7;bar 0;";
        String[][] ahead = {{full}, {full, full}, {full, full, full}, {full + "x"}, {full, full + "x"}, {full + "x", full, full + "x"}};
        for (String[] texts : ahead) {
            CartFellows x = new CartFellows();
            for (String text : texts) {
                due(text, Checks.laws(x, text), text.endsWith("x") ? NONE : 11);
            }
            due("others", Checks.laws(x, "kind z most 50;fine y is 1 for all;"), 2);
            int[] all = {0, 1, 1, 0};
            for (int what = 0; what < 4; what++) {
                due("all " + what, x.all(what), all[what]);
            }
            due("the kind", x.name(false, 0, 0), 'z');
            due("its second letter", x.name(false, 0, 1), NONE);
            due("a second kind", x.name(false, 1, 0), NONE);
            due("the fine", x.name(true, 0, 0), 'y');
            due("its second letter", x.name(true, 0, 1), NONE);
            due("a second fine", x.name(true, 1, 0), NONE);
            x.street(0, 1, 5, 1);
            x.stand(0);
            due("not shut", x.shut(0, 1, 5), 0);
            due("not shut", x.drive(0, 1, 5, 0), 10);
            x.told(0, 3, 0, 1, 1, 1, 1, true);
            due("no rate", x.rate(1), 0);
            due("its fine", x.fines(3), 1);
            due("none is barred", x.barred(3), 0);
            x.cart(0, 1);
            x.call(0, 0, 1, 0, 50);
            x.call(0, 0, 1, 0, 50);
            x.call(0, 0, 1, 0, 50);
            due("work of 1440, no rest", x.run(true), 3);
            due("a load of 1", x.taken(0, 6), 15);
            due("at once again", x.taken(1, 1), 20);
            due("at once again", x.taken(2, 1), 40);
            due("the kind that went", Checks.laws(x, "rate 1 for is aaa;"), NONE);
            due("is no name ahead", x.fault(0), 3);
            due("its name is free", Checks.laws(x, "kind aaa most 5;fine bb is 5 for is aaa;"), 2);
        }
    }

    /** Many texts behind one another: each is read as if it were the first. */
    private static void eachAsTheFirst() {
        by("5: The tape is THE BY-LAWS (however many have been ahead)");
        CartFellows x = new CartFellows();
        StringBuilder sum = new StringBuilder("kind a most 5;rate 1");
        while (sum.length() < 980) {
            sum.append("+1");
        }
        int ones = (sum.length() - 18) / 2;
        for (int round = 0; round < 5; round++) {
            due("a long text", Checks.laws(x, sum + " for all;"), 2);
            x.told(0, 0, 0, 1, 1, 1, 1, true);
            due("its rate", x.rate(1), ones);
        }
        for (int round = 0; round < 3; round++) {
            due("three rates", Checks.laws(x, "kind a most 5;" + repeat("rate 9 for all;", 3)), 4);
            x.told(0, 0, 0, 1, 1, 1, 1, true);
            due("their sum", x.rate(1), 27);
        }
        for (int round = 0; round < 3; round++) {
            due("two fines, a rate", Checks.laws(x, "kind a most 5;fine b is 1 for all;fine c is 1 for all;rate 5 for all;"), 4);
            x.told(0, 0, 0, 1, 1, 1, 1, true);
            due("its rate", x.rate(1), 5);
            due("their fines", x.fines(0), 2);
        }
    }

    private static void whatStays() {
        by("5: (STREETS, STANDS, WHARVES, planned() stay)");
        CartFellows x = busy();
        int planned = x.planned();
        for (int round = 0; round < 2; round++) {
            Checks.laws(x, "");
            due("streets", x.all(0), 2);
            due("a street", x.drive(0, 2, 0, 0), 10);
            due("stands", x.all(6), 1);
            due("a stand", x.stand(0), NONE);
            Checks.fails("a wharf", x.wharf(1, true));
            Checks.fails("no wharf", x.wharf(0, false));
            due("planned", x.planned(), planned);
        }
        due("something was planned", planned, 1);
    }

    private static void tapeGoes() {
        by("5: The tape (it goes)");
        String[] texts = {"bar 7;", "", "x", "bar", repeat(" ", 1000), repeat("x", 1000)};
        for (String text : texts) {
            CartFellows x = new CartFellows();
            Checks.laws(x, text);
            Checks.fails("no byte behind " + text, x.end(1));
            due("nothing is read again", x.laws(), 0);
            due("fed anew", x.feed(0x62617220, 0x373b2020, 0x20202020, 0x20202020, 0x20202020), 20);
            due("read alone", x.laws(), 1);
        }
    }

    private static void faultOfLatest() {
        by("6: Of the latest laws(): its FAULT (what 0; 0 without, or ahead of any), its place (1; NONE without). NONE for another what.");
        CartFellows x = new CartFellows();
        int[] others = {-1, 2, 3, LEAST, MOST};
        String[] texts = {"x", "", "kind a most 5;kind a most 5;", "rate 1 for is a;", "bar 7;", "load 61;", "rate (((((((((1", "bar"};
        int[] faults = {1, 0, 2, 3, 0, 4, 5, 1};
        int[] places = {0, NONE, 19, 14, NONE, 5, 13, 3};
        due("ahead of any", x.fault(0), 0);
        due("ahead of any, place", x.fault(1), NONE);
        for (int i = 0; i < texts.length; i++) {
            Checks.laws(x, texts[i]);
            due("fault of " + texts[i], x.fault(0), faults[i]);
            due("place of " + texts[i], x.fault(1), places[i]);
            for (int what : others) {
                due("what " + what, x.fault(what), NONE);
            }
            due("it stays", x.fault(0), faults[i]);
        }
        x.feed(0, 0, 0, 0, 0);
        due("feeding does not change it", x.fault(0), 1);
        x.end(0);
        due("feeding does not change it", x.fault(1), 3);
    }

    private static void letters() {
        by("7: Letter k of the NAME of a KIND (fine false), a FINE");
        CartFellows x = Checks.with("kind az most 5;fine q is 1 for all;kind stuvwxyz most 5;fine rs is 1 for all;");
        due("the first kind", x.name(false, 0, 0), 'a');
        due("the first kind", x.name(false, 0, 1), 'z');
        due("the second kind", x.name(false, 1, 0), 's');
        due("the second kind", x.name(false, 1, 7), 'z');
        due("the first fine", x.name(true, 0, 0), 'q');
        due("the second fine", x.name(true, 1, 0), 'r');
        due("the second fine", x.name(true, 1, 1), 's');
    }

    private static void noLetter() {
        by("7: NONE if there is none such");
        CartFellows x = Checks.with("kind abcdefgh most 5;kind ab most 5;fine abc is 1 for all;");
        int[][] kinds = {{0, 8}, {0, -1}, {1, 2}, {1, -1}, {2, 0}, {-1, 0}, {8, 0}, {9, 0}, {LEAST, 0}, {MOST, 0}, {0, LEAST}, {0, MOST}};
        for (int[] k : kinds) {
            due("kind " + k[0] + " letter " + k[1], x.name(false, k[0], k[1]), NONE);
        }
        int[][] fines = {{0, 3}, {0, 8}, {0, -1}, {1, 0}, {-1, 0}, {12, 0}, {-8, 0}, {LEAST, 0}, {MOST, 0}, {0, LEAST}, {0, MOST}};
        for (int[] f : fines) {
            due("fine " + f[0] + " letter " + f[1], x.name(true, f[0], f[1]), NONE);
        }
        Checks.laws(x, "kind a most 5;");
        due("a shorter name", x.name(false, 0, 1), NONE);
        due("a kind less", x.name(false, 1, 0), NONE);
        due("a fine less", x.name(true, 0, 0), NONE);
    }

    private static void rateOfNone() {
        by("15: RATE of a CARRIAGE's ACT (known or not); NONE if it is none");
        CartFellows x = Checks.with("kind a most 5;rate wait for all;fine f is 1 for all;");
        x.told(0, 0, 0, 1, 1, 1, 7, true);
        x.witness(1, true);
        x.appeal(1, 0);
        x.annul(2);
        x.told(0, 0, 0, 1, 1, 1, 9, true);
        int[] none = {0, -1, 2, 3, 4, 6, 200, 201, LEAST, MOST};
        for (int act : none) {
            due("of act " + act, x.rate(act), NONE);
        }
        due("known", x.rate(1), 7);
        x.as(0);
        due("not known yet", x.rate(1), 7);
        due("not known yet", x.rate(5), 9);
        x.as(NONE);
        x.annul(1);
        due("void", x.rate(1), 7);
    }
}
