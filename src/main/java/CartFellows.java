import java.util.Arrays;

/**
 * A fellowship of carmen: its by-laws, its city, its book of carriages and its day.
 * What every call answers is told by the document (promises 1 to 35).
 *
 * All rows are made when the object is made and used again: no call makes an object.
 */
public final class CartFellows {
    public static final int NONE = -1;

    private static final int PLACES = 12;
    private static final int STREETS = 24;
    private static final int TAPE = 1000;
    private static final int FED = 20;
    private static final int DAY = 1440;
    private static final int GREATEST = 9999;
    private static final int KINDS = 8;
    private static final int FINES = 12;
    private static final int OTHERS = 30;
    private static final int LETTERS = 8;
    private static final int DIGITS = 5;
    private static final int OPEN = 8;
    private static final int ACTS = 200;
    private static final int CALLS = 40;
    private static final int CARTS = 16;
    private static final int STANDS = 6;
    private static final int MOST_COST = 1000000;
    private static final int MOST_TOLD = 2000000000;
    private static final int NO_GAINS = -2000000001;
    /** Later than any minute that a drive or a wharf can come to. */
    private static final int NEVER = 1 << 30;

    private final byte[] tape;
    private int tapeLength;
    private final City city;
    private final Reader reader;
    private Laws laws;
    /** Read into first, so that a text with a fault leaves the laws in force alone. */
    private Laws spare;
    private final Drive way;
    private final Book acts;
    private int knownAt;
    private final Fleet fleet;
    private final Run latest;
    /** For gains(), so that the latest run stays. */
    private final Run trial;
    private final Plan sites;

    public CartFellows() {
        tape = new byte[TAPE];
        tapeLength = 0;
        city = new City();
        reader = new Reader();
        laws = new Laws();
        spare = new Laws();
        way = new Drive();
        acts = new Book();
        knownAt = NONE;
        fleet = new Fleet();
        latest = new Run();
        trial = new Run();
        sites = new Plan();
    }

    // ---- the city and the by-laws

    public int feed(int a, int b, int c, int d, int e) {
        if (tapeLength + FED > TAPE) {
            return NONE;
        }
        append(a);
        append(b);
        append(c);
        append(d);
        append(e);
        return tapeLength;
    }

    public boolean end(int n) {
        if (n < 0 || n > tapeLength) {
            return false;
        }
        tapeLength = n;
        return true;
    }

    public int street(int a, int b, int minutes, int yards) {
        boolean can = isPlace(a) && isPlace(b) && a != b && isIn(minutes, 1, 60) && isIn(yards, 1, 100);
        return can ? city.pave(a, b, minutes, yards) : NONE;
    }

    public int laws() {
        boolean isGood = reader.read(tape, tapeLength, spare);
        // "all stays" with a fault is said of all else: the tape goes in both cases
        tapeLength = 0;
        if (!isGood) {
            return NONE;
        }
        Laws old = laws;
        laws = spare;
        spare = old;
        acts.clear();
        knownAt = NONE;
        fleet.clear();
        latest.forget();
        return laws.kinds + laws.fines + laws.others;
    }

    public int fault(int what) {
        switch (what) {
            case 0: return reader.fault;
            case 1: return reader.faultPlace;
            default: return NONE;
        }
    }

    public int name(boolean fine, int i, int k) {
        int names = fine ? laws.fines : laws.kinds;
        return isIn(i, 0, names - 1) ? laws.letter(fine ? KINDS + i : i, k) : NONE;
    }

    // ---- drives

    public int shut(int from, int to, int minute) {
        if (!isPlace(from) || !isPlace(to) || !isIn(minute, 0, DAY - 1) || !city.hasStreet(from, to)) {
            return NONE;
        }
        return laws.entry(from, to, minute) == minute ? 0 : 1;
    }

    public int drive(int from, int to, int minute, int what) {
        if (!isPlace(from) || !isPlace(to) || !isIn(minute, 0, GREATEST) || !city.isLinked(from, to)) {
            return NONE;
        }
        way.search(city, laws, from, minute);
        switch (what) {
            case 0: return way.reached[to];
            case 1: return way.yardsTo(city, to);
            case 2: return way.last[to];
            default: return NONE;
        }
    }

    // ---- the book

    public int told(int call, int cart, int kind, int weight, int yards, int minute, int wait, boolean turn) {
        boolean known = isIn(call, 0, CALLS - 1) && isIn(cart, 0, CARTS - 1) && isIn(kind, 0, laws.kinds - 1);
        boolean can = isIn(weight, 1, GREATEST) && isIn(yards, 0, GREATEST);
        boolean inTime = isIn(minute, 0, GREATEST) && isIn(wait, 0, GREATEST);
        if (!known || !can || !inTime || acts.count >= ACTS) {
            return NONE;
        }
        Carriage told = acts.next();
        told.call = call;
        told.cart = cart;
        told.kind = kind;
        told.weight = weight;
        told.yards = yards;
        told.minute = minute;
        told.wait = wait;
        told.turn = turn ? 1 : 0;
        return acts.add(Book.CARRIAGE, 0, 0);
    }

    public int witness(int act, boolean is) {
        return acts.isCarriage(act) ? acts.add(Book.WITNESS, act, is ? 1 : -1) : NONE;
    }

    public int appeal(int act, int fine) {
        boolean can = acts.isCarriage(act) && isIn(fine, 0, laws.fines - 1);
        return can ? acts.add(Book.APPEAL, act, fine) : NONE;
    }

    public int annul(int act) {
        return acts.strike(act);
    }

    public boolean as(int act) {
        if (act < NONE || act > acts.count) {
            return false;
        }
        knownAt = act;
        return true;
    }

    public int rate(int act) {
        return acts.isCarriage(act) ? laws.rateOf(acts.carriages[act]) : NONE;
    }

    public int fine(int act, int i) {
        boolean can = acts.isCarriage(act) && acts.isKnown(act, at()) && isIn(i, 0, laws.fines - 1);
        return can ? acts.fineOf(laws, act, i, at()) : NONE;
    }

    public int fines(int cart) {
        return isIn(cart, 0, CARTS - 1) ? capped(acts.finesOf(laws, cart, at())) : NONE;
    }

    public int barred(int cart) {
        if (!isIn(cart, 0, CARTS - 1)) {
            return NONE;
        }
        return barredCarts() >> cart & 1;
    }

    public int quarrels() {
        return acts.countQuarrels(at());
    }

    public int right(int call) {
        return isIn(call, 0, CALLS - 1) ? acts.rightOf(call, at()) : NONE;
    }

    // ---- the day

    public int stand(int place) {
        return isPlace(place) ? city.settle(place) : NONE;
    }

    public boolean wharf(int place, boolean is) {
        if (!isPlace(place) || city.isWharf(place) == is) {
            return false;
        }
        city.wharves ^= 1 << place;
        return true;
    }

    public int cart(int home, int licence) {
        return isPlace(home) && city.isStand(home) ? fleet.addCart(home, licence) : NONE;
    }

    public int call(int minute, int from, int to, int kind, int weight) {
        boolean trip = isIn(minute, 0, DAY - 1) && isPlace(from) && isPlace(to) && from != to;
        boolean load = isIn(kind, 0, laws.kinds - 1) && isIn(weight, 1, 999);
        return trip && load ? fleet.addCall(minute, from, to, kind, weight) : NONE;
    }

    public int run(boolean turns) {
        return latest.go(city, laws, fleet, barredCarts(), turns);
    }

    public int taken(int call, int what) {
        return latest.tellTrip(call, what);
    }

    public int cartOf(int cart, int what) {
        return latest.tellCart(cart, what);
    }

    public int day(int what) {
        return latest.tellDay(what);
    }

    public int wear(int street) {
        return latest.made && isIn(street, 0, latest.streets - 1) ? latest.streetWear[street] : NONE;
    }

    public int part(int cost, int cart) {
        boolean can = latest.made && isIn(cost, 0, MOST_COST) && isIn(cart, 0, latest.carts - 1);
        return can ? latest.share(cost, cart) : NONE;
    }

    public int gains(int cart) {
        if (!isIn(cart, 0, fleet.carts - 1)) {
            return NO_GAINS;
        }
        int barred = barredCarts();
        trial.go(city, laws, fleet, barred, true);
        int byTurns = trial.tellCart(cart, 0);
        trial.go(city, laws, fleet, barred, false);
        return byTurns - trial.tellCart(cart, 0);
    }

    public int book() {
        if (!latest.made || latest.booked || acts.count + latest.taken > ACTS) {
            return NONE;
        }
        for (int call = 0; call < latest.calls; call++) {
            Trip trip = latest.trips[call];
            if (trip.taken && acts.count < ACTS) {
                acts.next().copy(trip.carriage);
                acts.add(Book.CARRIAGE, 0, 0);
            }
        }
        latest.booked = true;
        return latest.taken;
    }

    public int plan(int n) {
        return isIn(n, 1, STANDS) && fleet.calls > 0 ? sites.choose(city, laws, fleet, n) : NONE;
    }

    public int planned() {
        return sites.chosen;
    }

    public int all(int what) {
        switch (what) {
            case 0: return city.streets;
            case 1: return laws.kinds;
            case 2: return laws.fines;
            case 3: return laws.others;
            case 4: return acts.count;
            case 5: return at();
            case 6: return Integer.bitCount(city.stands);
            case 7: return fleet.carts;
            case 8: return fleet.calls;
            default: return NONE;
        }
    }

    // ---- helpers of the face

    private static boolean isIn(int number, int least, int most) {
        return number >= least && number <= most;
    }

    private static boolean isPlace(int place) {
        return isIn(place, 0, PLACES - 1);
    }

    private static int capped(long sum) {
        return (int) Math.min(sum, (long) MOST_TOLD);
    }

    private void append(int number) {
        for (int shift = 24; shift >= 0 && tapeLength < TAPE; shift -= 8) {
            tape[tapeLength] = (byte) (number >> shift);
            tapeLength++;
        }
    }

    private int at() {
        return knownAt == NONE ? acts.count : knownAt;
    }

    /** As bits: the carts whose fines, as known, are above what the by-laws bear. */
    private int barredCarts() {
        int bits = 0;
        for (int cart = 0; cart < CARTS && laws.bar != NONE; cart++) {
            if (acts.finesOf(laws, cart, at()) > laws.bar) {
                bits |= 1 << cart;
            }
        }
        return bits;
    }

    /** Places, streets, stands and wharves. */
    private static final class City {
        final int[] first = new int[STREETS];
        final int[] second = new int[STREETS];
        final int[] minutes = new int[STREETS];
        final int[] yards = new int[STREETS];
        /** Of each place, as bits, the places that streets link it with: since no street is shut for ever, these it reaches. */
        final int[] links = new int[PLACES];
        int streets;
        int stands;
        int wharves;

        City() {
            for (int place = 0; place < PLACES; place++) {
                links[place] = 1 << place;
            }
        }

        int pave(int a, int b, int lasts, int measures) {
            if (streets >= STREETS) {
                return NONE;
            }
            first[streets] = a;
            second[streets] = b;
            minutes[streets] = lasts;
            yards[streets] = measures;
            streets++;
            int joined = links[a] | links[b];
            for (int place = 0; place < PLACES; place++) {
                if ((joined >> place & 1) == 1) {
                    links[place] = joined;
                }
            }
            return streets;
        }

        boolean isLinked(int from, int to) {
            return (links[from] >> to & 1) == 1;
        }

        boolean hasStreet(int from, int to) {
            for (int street = 0; street < streets; street++) {
                if (across(street, from) == to) {
                    return true;
                }
            }
            return false;
        }

        /** The other end of a street; NONE if the place is no end of it. */
        int across(int street, int place) {
            if (first[street] == place) {
                return second[street];
            }
            return second[street] == place ? first[street] : NONE;
        }

        boolean isStand(int place) {
            return (stands >> place & 1) == 1;
        }

        boolean isWharf(int place) {
            return (wharves >> place & 1) == 1;
        }

        int settle(int place) {
            if (isStand(place) || Integer.bitCount(stands) >= STANDS) {
                return NONE;
            }
            stands |= 1 << place;
            return Integer.bitCount(stands);
        }
    }

    /** One search for DRIVES: from a place, from a minute on, to every place. */
    private static final class Drive {
        final int[] reached = new int[PLACES];
        final int[] last = new int[PLACES];

        void search(City city, Laws laws, int start, int minute) {
            Arrays.fill(reached, NEVER);
            Arrays.fill(last, NONE);
            reached[start] = minute;
            int open = (1 << PLACES) - 1;
            for (int round = 0; round < PLACES; round++) {
                int place = soonest(open);
                if (place == NONE) {
                    break;
                }
                open &= ~(1 << place);
                leave(city, laws, place);
            }
        }

        /** Of some places (as bits) that which is reached first, of several the least; NONE if none is reached. */
        int soonest(int places) {
            int best = NONE;
            for (int place = 0; place < PLACES; place++) {
                boolean counts = (places >> place & 1) == 1 && reached[place] < NEVER;
                if (counts && (best == NONE || reached[place] < reached[best])) {
                    best = place;
                }
            }
            return best;
        }

        private void leave(City city, Laws laws, int place) {
            for (int street = 0; street < city.streets; street++) {
                int other = city.across(street, place);
                if (other == NONE) {
                    continue;
                }
                int there = laws.entry(place, other, reached[place]) + city.minutes[street];
                boolean least = there == reached[other] && street < last[other];
                if (there < reached[other] || least) {
                    reached[other] = there;
                    last[other] = street;
                }
            }
        }

        int yardsTo(City city, int to) {
            int sum = 0;
            int place = to;
            for (int step = 0; step < PLACES && place != NONE && last[place] != NONE; step++) {
                sum += city.yards[last[place]];
                place = city.across(last[place], place);
            }
            return sum;
        }
    }

    /**
     * By-laws that were read. A rate's or a fine's SUM and TEST are kept as code behind one another:
     * each number as itself, all else as -1 - sort, what joins two behind both, ';' at the end.
     */
    private static final class Laws {
        private static final int STACK = 128;
        private static final long MOST_SUM = 10000000L;

        final byte[] names = new byte[(KINDS + FINES) * LETTERS];
        final int[] lengths = new int[KINDS + FINES];
        final int[] most = new int[KINDS];
        final int[] shuts = new int[OTHERS * 4];
        final int[] rateCode = new int[OTHERS];
        final int[] fineCode = new int[FINES];
        final int[] code = new int[TAPE];
        final int[] stack = new int[STACK];
        int kinds;
        int fines;
        int others;
        int shutCount;
        int rates;
        int codeLength;
        int work;
        int rest;
        int load;
        int bar;

        Laws() {
            clear();
        }

        void clear() {
            kinds = 0;
            fines = 0;
            others = 0;
            shutCount = 0;
            rates = 0;
            codeLength = 0;
            work = DAY;
            rest = 0;
            load = 1;
            bar = NONE;
        }

        /** Letter k of a name (kinds first, fines from KINDS on); NONE if it has not so many. */
        int letter(int slot, int k) {
            return isIn(k, 0, lengths[slot] - 1) ? names[slot * LETTERS + k] : NONE;
        }

        /** The slot of a name, of kinds or of fines; NONE if there is none such. */
        int slotOf(byte[] text, int start, int end, boolean ofFines) {
            int begin = ofFines ? KINDS : 0;
            int count = ofFines ? fines : kinds;
            for (int slot = begin; slot < begin + count; slot++) {
                if (isNamed(slot, text, start, end)) {
                    return slot;
                }
            }
            return NONE;
        }

        private boolean isNamed(int slot, byte[] text, int start, int end) {
            if (lengths[slot] != end - start) {
                return false;
            }
            for (int k = 0; k < end - start; k++) {
                if (names[slot * LETTERS + k] != text[start + k]) {
                    return false;
                }
            }
            return true;
        }

        void setName(int slot, byte[] text, int start, int end) {
            lengths[slot] = Math.min(end - start, LETTERS);
            System.arraycopy(text, start, names, slot * LETTERS, lengths[slot]);
        }

        void addShut(int from, int to, int begin, int end) {
            if (shutCount < OTHERS) {
                shuts[shutCount * 4] = from;
                shuts[shutCount * 4 + 1] = to;
                shuts[shutCount * 4 + 2] = begin;
                shuts[shutCount * 4 + 3] = end;
                shutCount++;
            }
        }

        void emit(int piece) {
            if (codeLength < TAPE) {
                code[codeLength] = piece;
                codeLength++;
            }
        }

        /** The first minute from a minute on at which a street may be entered that way. */
        int entry(int from, int to, int minute) {
            int free = minute;
            boolean moved = true;
            // each shut puts it off once at most: behind its end it does not shut any more
            for (int round = 0; round <= shutCount && moved; round++) {
                moved = false;
                for (int row = 0; row < shutCount * 4; row += 4) {
                    boolean way = shuts[row] == from && shuts[row + 1] == to;
                    if (way && shuts[row + 2] <= free && free <= shuts[row + 3]) {
                        free = shuts[row + 3] + 1;
                        moved = true;
                    }
                }
            }
            return free;
        }

        /** How long it takes to load a weight, and to unload it. */
        int handling(int weight) {
            return (weight + 9) / 10 * load;
        }

        int rateOf(Carriage carriage) {
            int sum = 0;
            for (int i = 0; i < rates; i++) {
                sum += worth(rateCode[i], carriage);
            }
            return Math.max(sum, 0);
        }

        int fineOf(int i, Carriage carriage) {
            return Math.max(worth(fineCode[i], carriage), 0);
        }

        /** The SUM whose code begins there, 0 if the TEST behind it does not hold. */
        private int worth(int begin, Carriage carriage) {
            int top = 0;
            for (int i = begin; i < codeLength && code[i] != -1 - ';'; i++) {
                int sort = -1 - code[i];
                if (sort == Reader.NOT && top >= 1) {
                    stack[top - 1] = 1 - stack[top - 1];
                } else if (joinsTwo(sort) && top >= 2) {
                    top--;
                    stack[top - 1] = join(sort, stack[top - 1], stack[top]);
                } else if (top < STACK) {
                    stack[top] = sort < 0 ? code[i] : fact(sort, carriage);
                    top++;
                }
            }
            return top == 2 && stack[1] == 1 ? stack[0] : 0;
        }

        private static boolean joinsTwo(int sort) {
            switch (sort) {
                case '+': case '-': case '*': case '/': case '<': case '>': case '=':
                case Reader.MIN: case Reader.MAX: case Reader.AND: case Reader.OR:
                    return true;
                default:
                    return false;
            }
        }

        private static int join(int sort, int a, int b) {
            switch (sort) {
                case '+': return bounded((long) a + b);
                case '-': return bounded((long) a - b);
                case '*': return bounded((long) a * b);
                case '/': return b == 0 ? 0 : Math.floorDiv(a, b);
                case '<': return a < b ? 1 : 0;
                case '>': return a > b ? 1 : 0;
                case '=': return a == b ? 1 : 0;
                case Reader.MIN: return Math.min(a, b);
                case Reader.MAX: return Math.max(a, b);
                case Reader.AND: return a & b;
                default: return a | b;
            }
        }

        private static int bounded(long sum) {
            return (int) Math.max(-MOST_SUM, Math.min(MOST_SUM, sum));
        }

        private static int fact(int sort, Carriage carriage) {
            switch (sort) {
                case Reader.YARDS: return carriage.yards;
                case Reader.WEIGHT: return carriage.weight;
                case Reader.MINUTE: return carriage.minute;
                case Reader.WAIT: return carriage.wait;
                case Reader.TURN: return carriage.turn;
                default: return carriage.kind == sort - Reader.IS_KIND ? 1 : 0;
            }
        }
    }

    /** Reads a text of by-laws from left to right, and stops at its first fault. */
    private static final class Reader {
        /** The sorts of what stands in a text: own words by their place in OWN, then the rest; a sign is its own byte. */
        private static final String OWN = "kind most shut to from rate for fine is work rest load bar or and not all yards weight minute wait turn min max ";
        private static final String SIGNS = ";()[],+-*/<>=";
        static final int KIND = 0;
        static final int MOST = 1;
        static final int SHUT = 2;
        static final int TO = 3;
        static final int FROM = 4;
        static final int RATE = 5;
        static final int FOR = 6;
        static final int FINE = 7;
        static final int IS = 8;
        static final int WORK = 9;
        static final int REST = 10;
        static final int LOAD = 11;
        static final int BAR = 12;
        static final int OR = 13;
        static final int AND = 14;
        static final int NOT = 15;
        static final int ALL = 16;
        static final int YARDS = 17;
        static final int WEIGHT = 18;
        static final int MINUTE = 19;
        static final int WAIT = 20;
        static final int TURN = 21;
        static final int MIN = 22;
        static final int MAX = 23;
        static final int NAME = 24;
        static final int NUMBER = 25;
        static final int END = 26;
        static final int BAD = 27;
        /** In code only: the carriage's kind is that which is added to this. */
        static final int IS_KIND = 200;

        private byte[] text;
        private int length;
        private Laws laws;
        /** Behind what was read last: sort, its first byte, the byte that is at fault if it must not stand here, its value. */
        private int at;
        private int sort;
        private int start;
        private int place;
        private int value;
        private boolean isWhole;
        /** The number that was asked for last, and its first byte. */
        private int number;
        private int numberStart;
        int fault;
        int faultPlace;

        Reader() {
            text = new byte[0];
            faultPlace = NONE;
        }

        /** Whether the text is one of by-laws: then they stand in the laws given. */
        boolean read(byte[] tape, int bytes, Laws into) {
            text = tape;
            length = Math.min(bytes, tape.length);
            laws = into;
            laws.clear();
            at = 0;
            isWhole = false;
            fault = 0;
            faultPlace = NONE;
            next();
            for (int i = 0; i < TAPE && fault == 0 && sort != END; i++) {
                if (readStatement()) {
                    take(';');
                }
            }
            return fault == 0;
        }

        private boolean wrong(int what, int where) {
            if (fault == 0) {
                fault = what;
                faultPlace = where;
            }
            return false;
        }

        // what stands in the text

        private void next() {
            int before = at;
            while (at < length && (text[at] == 10 || text[at] == 32)) {
                at++;
            }
            boolean isGlued = isWhole && at == before;
            boolean isWord = at < length && isOf(true, text[at]);
            isWhole = isWord || at < length && isOf(false, text[at]);
            start = at;
            place = at;
            value = 0;
            if (at >= length) {
                sort = END;
            } else if (!isWhole) {
                sort = SIGNS.indexOf((char) (text[at] & 255)) >= 0 ? text[at] : BAD;
                at++;
            } else {
                int end = start + (isWord ? LETTERS : DIGITS);
                while (at < length && at < end && isOf(isWord, text[at])) {
                    value = value * 10 + text[at] - '0';
                    at++;
                }
                boolean isTooLong = at < length && isOf(isWord, text[at]);
                place = isTooLong && !isGlued ? at : start;
                sort = isTooLong || isGlued ? BAD : isWord ? wordSort() : NUMBER;
            }
        }

        /** Whether a byte may stand in a word, or in a number. */
        private static boolean isOf(boolean isWord, byte sign) {
            return isWord ? sign >= 'a' && sign <= 'z' : sign >= '0' && sign <= '9';
        }

        /** The place in OWN of the word that was gone over, or NAME. */
        private int wordSort() {
            int word = 0;
            int same = 0;
            int letters = 0;
            for (int i = 0; i < OWN.length(); i++) {
                char sign = OWN.charAt(i);
                if (sign == ' ') {
                    if (same == letters && letters == at - start) {
                        return word;
                    }
                    word++;
                    same = 0;
                    letters = 0;
                } else {
                    same += start + letters < at && text[start + letters] == sign ? 1 : 0;
                    letters++;
                }
            }
            return NAME;
        }

        // what must stand in the text

        private boolean take(int wanted) {
            if (sort != wanted) {
                return wrong(1, place);
            }
            next();
            return true;
        }

        private boolean takeNumber(int least, int most) {
            if (sort != NUMBER) {
                return wrong(1, place);
            }
            if (!isIn(value, least, most)) {
                return wrong(4, start);
            }
            number = value;
            numberStart = start;
            next();
            return true;
        }

        private boolean takeNewName(int slot) {
            if (sort != NAME) {
                return wrong(1, place);
            }
            if (laws.slotOf(text, start, at, false) != NONE || laws.slotOf(text, start, at, true) != NONE) {
                return wrong(2, start);
            }
            laws.setName(slot, text, start, at);
            next();
            return true;
        }

        private boolean readStatement() {
            int word = sort;
            if (!hasRoom()) {
                return false;
            }
            next();
            switch (word) {
                case KIND:
                    return readKind();
                case SHUT:
                    return readShut();
                case WORK:
                    return readWork();
                case LOAD:
                    return readLoad();
                case BAR:
                    return readBar();
                default:
                    break;
            }
            boolean good = word == FINE ? beginFine() : beginRate();
            good = good && readSum(0) && take(FOR) && readTest(0);
            laws.emit(-1 - ';');
            return good;
        }

        /** Whether a statement may begin with the word that stands here. */
        private boolean hasRoom() {
            switch (sort) {
                case KIND:
                    return laws.kinds < KINDS || wrong(5, start);
                case FINE:
                    return laws.fines < FINES || wrong(5, start);
                case SHUT: case RATE: case WORK: case LOAD: case BAR:
                    return laws.others < OTHERS || wrong(5, start);
                default:
                    return wrong(1, place);
            }
        }

        private boolean readKind() {
            if (!takeNewName(laws.kinds) || !take(MOST) || !takeNumber(1, 999)) {
                return false;
            }
            laws.most[laws.kinds] = number;
            laws.kinds++;
            return true;
        }

        private boolean beginFine() {
            if (!takeNewName(KINDS + laws.fines) || !take(IS)) {
                return false;
            }
            laws.fineCode[laws.fines] = laws.codeLength;
            laws.fines++;
            return true;
        }

        private boolean beginRate() {
            laws.rateCode[laws.rates] = laws.codeLength;
            laws.rates++;
            laws.others++;
            return true;
        }

        private boolean readLoad() {
            if (!takeNumber(0, 60)) {
                return false;
            }
            laws.load = number;
            laws.others++;
            return true;
        }

        private boolean readBar() {
            if (!takeNumber(0, 99999)) {
                return false;
            }
            laws.bar = number;
            laws.others++;
            return true;
        }

        private boolean readShut() {
            if (!takeNumber(0, PLACES - 1)) {
                return false;
            }
            int from = number;
            if (!take(TO) || !takeNumber(0, PLACES - 1)) {
                return false;
            }
            int to = number;
            if (from == to) {
                return wrong(4, numberStart);
            }
            if (!take(FROM) || !takeNumber(0, DAY - 1)) {
                return false;
            }
            int begin = number;
            if (!take(TO) || !takeNumber(begin, DAY - 1)) {
                return false;
            }
            laws.addShut(from, to, begin, number);
            laws.others++;
            return true;
        }

        private boolean readWork() {
            if (!takeNumber(1, DAY)) {
                return false;
            }
            laws.work = number;
            if (!take(REST) || !takeNumber(0, 600)) {
                return false;
            }
            laws.rest = number;
            laws.others++;
            return true;
        }

        // tests and sums: open tells how many ( [ are open

        private boolean readTest(int open) {
            boolean good = readBoth(open);
            for (int i = 0; i < TAPE && good && sort == OR; i++) {
                next();
                good = readBoth(open);
                laws.emit(-1 - OR);
            }
            return good;
        }

        private boolean readBoth(int open) {
            boolean good = readFact(open);
            for (int i = 0; i < TAPE && good && sort == AND; i++) {
                next();
                good = readFact(open);
                laws.emit(-1 - AND);
            }
            return good;
        }

        private boolean readFact(int open) {
            boolean isNot = false;
            for (int i = 0; i < TAPE && sort == NOT; i++) {
                next();
                isNot = !isNot;
            }
            boolean good = readPlainFact(open);
            if (isNot) {
                laws.emit(-1 - NOT);
            }
            return good;
        }

        private boolean readPlainFact(int open) {
            switch (sort) {
                case '[':
                    if (open >= OPEN) {
                        return wrong(5, start);
                    }
                    next();
                    return readTest(open + 1) && take(']');
                case ALL:
                    laws.emit(1);
                    next();
                    return true;
                case IS:
                    next();
                    return readKindName();
                default:
                    break;
            }
            if (!readSum(open)) {
                return false;
            }
            int sign = sort;
            if (sign != '<' && sign != '>' && sign != '=') {
                return wrong(1, place);
            }
            next();
            boolean good = readSum(open);
            laws.emit(-1 - sign);
            return good;
        }

        private boolean readKindName() {
            if (sort != NAME) {
                return wrong(1, place);
            }
            int kind = laws.slotOf(text, start, at, false);
            if (kind == NONE) {
                return wrong(3, start);
            }
            laws.emit(-1 - (IS_KIND + kind));
            next();
            return true;
        }

        private boolean readSum(int open) {
            boolean good = readProduct(open);
            for (int i = 0; i < TAPE && good && (sort == '+' || sort == '-'); i++) {
                int sign = sort;
                next();
                good = readProduct(open);
                laws.emit(-1 - sign);
            }
            return good;
        }

        private boolean readProduct(int open) {
            boolean good = readPart(open);
            for (int i = 0; i < TAPE && good && (sort == '*' || sort == '/'); i++) {
                int sign = sort;
                next();
                good = readPart(open);
                laws.emit(-1 - sign);
            }
            return good;
        }

        private boolean readPart(int open) {
            int word = sort;
            switch (word) {
                case NUMBER:
                    laws.emit(value);
                    next();
                    return true;
                case YARDS: case WEIGHT: case MINUTE: case WAIT: case TURN:
                    laws.emit(-1 - word);
                    next();
                    return true;
                case '(':
                    return openSum(open) && take(')');
                case MIN: case MAX:
                    next();
                    boolean good = openSum(open) && take(',') && readSum(open + 1) && take(')');
                    laws.emit(-1 - word);
                    return good;
                default:
                    return wrong(1, place);
            }
        }

        private boolean openSum(int open) {
            if (sort != '(') {
                return wrong(1, place);
            }
            if (open >= OPEN) {
                return wrong(5, start);
            }
            next();
            return readSum(open + 1);
        }
    }

    /** What a cart tells of a call that it took. */
    private static final class Carriage {
        int call;
        int cart;
        int kind;
        int weight;
        int yards;
        int minute;
        int wait;
        int turn;

        void copy(Carriage other) {
            call = other.call;
            cart = other.cart;
            kind = other.kind;
            weight = other.weight;
            yards = other.yards;
            minute = other.minute;
            wait = other.wait;
            turn = other.turn;
        }
    }

    /** The acts, from 1 on. */
    private static final class Book {
        static final int CARRIAGE = 0;
        static final int WITNESS = 1;
        static final int APPEAL = 2;
        static final int VOID = 3;

        final int[] sorts = new int[ACTS + 1];
        /** Of each witness, appeal and void: the act that it is of. */
        final int[] of = new int[ACTS + 1];
        /** Of a witness 1 or -1, of an appeal the fine. */
        final int[] more = new int[ACTS + 1];
        final int[] voidBy = new int[ACTS + 1];
        final Carriage[] carriages = new Carriage[ACTS + 1];
        /** Made anew by findAppeals: of each act, as bits, the fines that are not to be paid. */
        final int[] appealed = new int[ACTS + 1];
        int count;

        Book() {
            for (int act = 0; act <= ACTS; act++) {
                carriages[act] = new Carriage();
            }
        }

        void clear() {
            count = 0;
        }

        /** The carriage that the next act tells; it must be filled ahead of add, while there is room. */
        Carriage next() {
            return carriages[Math.min(count + 1, ACTS)];
        }

        int add(int sort, int act, int what) {
            if (count >= ACTS) {
                return NONE;
            }
            count++;
            sorts[count] = sort;
            of[count] = act;
            more[count] = what;
            voidBy[count] = 0;
            return count;
        }

        boolean isCarriage(int act) {
            return isIn(act, 1, count) && sorts[act] == CARRIAGE;
        }

        boolean isKnown(int act, int at) {
            return act <= at && (voidBy[act] == 0 || voidBy[act] > at);
        }

        int strike(int act) {
            if (count >= ACTS || !isIn(act, 1, count) || sorts[act] == VOID || voidBy[act] != 0) {
                return NONE;
            }
            int by = add(VOID, act, 0);
            voidBy[act] = by;
            return by;
        }

        private void findAppeals(int at) {
            Arrays.fill(appealed, 0);
            for (int act = 1; act <= count; act++) {
                if (sorts[act] == APPEAL && isKnown(act, at)) {
                    appealed[of[act]] |= 1 << more[act];
                }
            }
        }

        /** What is to be paid of a fine of a carriage. */
        int fineOf(Laws laws, int act, int i, int at) {
            findAppeals(at);
            return (appealed[act] >> i & 1) == 1 ? 0 : laws.fineOf(i, carriages[act]);
        }

        long finesOf(Laws laws, int cart, int at) {
            findAppeals(at);
            long sum = 0;
            for (int act = 1; act <= count; act++) {
                if (sorts[act] != CARRIAGE || carriages[act].cart != cart || !isKnown(act, at)) {
                    continue;
                }
                for (int i = 0; i < laws.fines; i++) {
                    if ((appealed[act] >> i & 1) == 0) {
                        sum += laws.fineOf(i, carriages[act]);
                    }
                }
            }
            return sum;
        }

        int countQuarrels(int at) {
            int quarrels = 0;
            for (int call = 0; call < CALLS; call++) {
                if (isQuarrel(call, at)) {
                    quarrels++;
                }
            }
            return quarrels;
        }

        private boolean tellsOf(int act, int call, int at) {
            return sorts[act] == CARRIAGE && carriages[act].call == call && isKnown(act, at);
        }

        private boolean isQuarrel(int call, int at) {
            int cart = NONE;
            for (int act = 1; act <= count; act++) {
                if (!tellsOf(act, call, at)) {
                    continue;
                }
                if (cart != NONE && cart != carriages[act].cart) {
                    return true;
                }
                cart = carriages[act].cart;
            }
            return false;
        }

        /** The act that is right of a call's quarrel; 0 without a quarrel. */
        int rightOf(int call, int at) {
            if (!isQuarrel(call, at)) {
                return 0;
            }
            int best = 0;
            int most = 0;
            for (int act = 1; act <= count; act++) {
                if (tellsOf(act, call, at)) {
                    int witnesses = countWitnesses(act, at);
                    if (best == 0 || witnesses > most) {
                        best = act;
                        most = witnesses;
                    }
                }
            }
            return best;
        }

        private int countWitnesses(int carriage, int at) {
            int sum = 0;
            for (int act = 1; act <= count; act++) {
                if (sorts[act] == WITNESS && of[act] == carriage && isKnown(act, at)) {
                    sum += more[act];
                }
            }
            return sum;
        }
    }

    /** The carts, and the calls of the day. */
    private static final class Fleet {
        final int[] homes = new int[CARTS];
        final int[] licences = new int[CARTS];
        final int[] minutes = new int[CALLS];
        final int[] froms = new int[CALLS];
        final int[] tos = new int[CALLS];
        final int[] kinds = new int[CALLS];
        final int[] weights = new int[CALLS];
        /** The calls by minute, then by number. */
        final int[] order = new int[CALLS];
        int carts;
        int calls;

        void clear() {
            carts = 0;
            calls = 0;
        }

        int addCart(int home, int licence) {
            if (carts >= CARTS) {
                return NONE;
            }
            homes[carts] = home;
            licences[carts] = licence;
            carts++;
            return carts - 1;
        }

        int addCall(int minute, int from, int to, int kind, int weight) {
            if (calls >= CALLS) {
                return NONE;
            }
            minutes[calls] = minute;
            froms[calls] = from;
            tos[calls] = to;
            kinds[calls] = kind;
            weights[calls] = weight;
            int slot = calls;
            while (slot > 0 && minutes[order[slot - 1]] > minute) {
                order[slot] = order[slot - 1];
                slot--;
            }
            order[slot] = calls;
            calls++;
            return calls - 1;
        }

        /** How many calls have come by a minute, if so many had ahead of it. */
        int countBegun(int minute, int ahead) {
            int begun = ahead;
            while (begun < calls && minutes[order[begun]] <= minute) {
                begun++;
            }
            return begun;
        }
    }

    /** A call in a run. */
    private static final class Trip {
        final Carriage carriage = new Carriage();
        boolean taken;
        int rate;
        int unloaded;
        int back;
    }

    /** A cart in a run. */
    private static final class Wagon {
        static final int BARRED = 0;
        static final int STANDING = 1;
        static final int LOADED = 2;
        static final int RETURNING = 3;

        int phase;
        /** The stand at which it is, that which it left, or that to which it comes back. */
        int place;
        /** In a line those with lower ranks are ahead. */
        int rank;
        /** When it comes to the place where it unloads, or back. */
        int due;
        int job;
        int left;
        int since;
        int work;
        long farthings;
        int trips;
        int away;
        int wear;

        void begin(boolean isBarred, int home, int number) {
            phase = isBarred ? BARRED : STANDING;
            place = isBarred ? NONE : home;
            rank = number;
            due = 0;
            job = NONE;
            left = 0;
            since = 0;
            work = 0;
            farthings = 0;
            trips = 0;
            away = 0;
            wear = 0;
        }

        void comeBack(int newRank) {
            phase = STANDING;
            rank = newRank;
            since = due;
            work += due - left;
            away += due - left;
        }
    }

    /** A run of the day, and what is told of it until the next one. */
    private static final class Run {
        private static final int EMPTY = 5;

        private final Wagon[] wagons = new Wagon[CARTS];
        final Trip[] trips = new Trip[CALLS];
        final int[] streetWear = new int[STREETS];
        private final int[] wharfFree = new int[PLACES];
        /** While a cart is picked: when one from each stand would be at the call's place. */
        private final int[] there = new int[PLACES];
        private final Drive way = new Drive();
        private City city;
        private Laws laws;
        private Fleet fleet;
        private boolean byTurns;
        private int ranks;
        int carts;
        int calls;
        int streets;
        int taken;
        boolean made;
        boolean booked;

        Run() {
            for (int cart = 0; cart < CARTS; cart++) {
                wagons[cart] = new Wagon();
            }
            for (int call = 0; call < CALLS; call++) {
                trips[call] = new Trip();
            }
        }

        void forget() {
            made = false;
        }

        /** Runs the day; tells how many calls were taken. */
        int go(City itsCity, Laws itsLaws, Fleet itsFleet, int barred, boolean turns) {
            city = itsCity;
            laws = itsLaws;
            fleet = itsFleet;
            byTurns = turns;
            begin(barred);
            int begun = 0;
            for (int minute = 0; minute < DAY; minute++) {
                unloadUpTo(minute);
                int nowBegun = fleet.countBegun(minute, begun);
                boolean isNew = comeBackUpTo(minute) || nowBegun > begun;
                begun = nowBegun;
                if (isNew) {
                    offer(minute, begun);
                }
            }
            unloadUpTo(NEVER);
            comeBackUpTo(NEVER);
            made = true;
            return taken;
        }

        private void begin(int barred) {
            carts = fleet.carts;
            calls = fleet.calls;
            streets = city.streets;
            taken = 0;
            booked = false;
            ranks = carts;
            Arrays.fill(streetWear, 0);
            Arrays.fill(wharfFree, 0);
            for (int cart = 0; cart < carts; cart++) {
                wagons[cart].begin((barred >> cart & 1) == 1, fleet.homes[cart], cart);
            }
            for (int call = 0; call < calls; call++) {
                trips[call].taken = false;
            }
        }

        /** Whether a cart may take a call now that could not ahead of this minute: one came back, or has rested. */
        private boolean comeBackUpTo(int minute) {
            boolean isNew = false;
            for (int cart = 0; cart < carts; cart++) {
                Wagon wagon = wagons[cart];
                if (wagon.phase == Wagon.RETURNING && wagon.due <= minute) {
                    wagon.comeBack(ranks);
                    ranks++;
                    isNew = true;
                }
                if (wagon.phase == Wagon.STANDING && wagon.work > 0 && minute - wagon.since >= laws.rest) {
                    wagon.work = 0;
                    isNew = true;
                }
            }
            return isNew;
        }

        private void offer(int minute, int begun) {
            for (int i = 0; i < begun; i++) {
                int call = fleet.order[i];
                if (!trips[call].taken) {
                    int cart = pick(call, minute);
                    if (cart != NONE) {
                        send(cart, call, minute);
                    }
                }
            }
        }

        private boolean may(int cart, int call) {
            Wagon wagon = wagons[cart];
            int kind = fleet.kinds[call];
            if (wagon.phase != Wagon.STANDING || (fleet.licences[cart] >> kind & 1) == 0) {
                return false;
            }
            boolean fit = fleet.weights[call] <= laws.most[kind] && wagon.work < laws.work;
            int stand = wagon.place;
            return fit && city.isLinked(stand, fleet.froms[call]) && city.isLinked(stand, fleet.tos[call]);
        }

        private int pick(int call, int minute) {
            Arrays.fill(there, NONE);
            int best = NONE;
            for (int cart = 0; cart < carts; cart++) {
                if (!may(cart, call)) {
                    continue;
                }
                int stand = wagons[cart].place;
                if (there[stand] == NONE) {
                    way.search(city, laws, stand, minute);
                    there[stand] = way.reached[fleet.froms[call]];
                }
                if (best == NONE || isAhead(wagons[cart], wagons[best])) {
                    best = cart;
                }
            }
            return best;
        }

        /** Whether a cart takes the call rather than one with a lower number. */
        private boolean isAhead(Wagon wagon, Wagon other) {
            int sooner = Integer.compare(there[wagon.place], there[other.place]);
            if (!byTurns) {
                int poorer = Long.compare(wagon.farthings, other.farthings);
                return poorer < 0 || poorer == 0 && sooner < 0;
            }
            if (sooner != 0) {
                return sooner < 0;
            }
            return wagon.place < other.place || wagon.place == other.place && wagon.rank < other.rank;
        }

        private boolean isFirst(Wagon wagon) {
            for (int cart = 0; cart < carts; cart++) {
                Wagon other = wagons[cart];
                if (other.phase == Wagon.STANDING && other.place == wagon.place && other.rank < wagon.rank) {
                    return false;
                }
            }
            return true;
        }

        private void send(int cart, int call, int minute) {
            Wagon wagon = wagons[cart];
            Trip trip = trips[call];
            Carriage carriage = trip.carriage;
            int from = fleet.froms[call];
            int to = fleet.tos[call];
            carriage.call = call;
            carriage.cart = cart;
            carriage.kind = fleet.kinds[call];
            carriage.weight = fleet.weights[call];
            carriage.turn = isFirst(wagon) ? 1 : 0;
            way.search(city, laws, wagon.place, minute);
            wearOut(wagon, from, EMPTY);
            carriage.minute = way.reached[from];
            carriage.wait = carriage.minute - fleet.minutes[call];
            way.search(city, laws, from, carriage.minute + laws.handling(carriage.weight));
            wearOut(wagon, to, EMPTY + carriage.weight);
            carriage.yards = way.yardsTo(city, to);
            trip.taken = true;
            trip.rate = laws.rateOf(carriage);
            wagon.farthings += trip.rate;
            wagon.trips++;
            wagon.phase = Wagon.LOADED;
            wagon.job = call;
            wagon.left = minute;
            wagon.due = way.reached[to];
            taken++;
        }

        /** Lets the way that was searched last wear its streets. */
        private void wearOut(Wagon wagon, int to, int each) {
            int place = to;
            for (int step = 0; step < PLACES && place != NONE && way.last[place] != NONE; step++) {
                int street = way.last[place];
                int wear = city.yards[street] * each;
                streetWear[street] += wear;
                wagon.wear += wear;
                place = city.across(street, place);
            }
        }

        /** All that come to unload by a minute do, in the order in which they come: so a wharf's line needs no rows. */
        private void unloadUpTo(int minute) {
            for (int i = 0; i < carts; i++) {
                int next = NONE;
                for (int cart = 0; cart < carts; cart++) {
                    boolean comes = wagons[cart].phase == Wagon.LOADED && wagons[cart].due <= minute;
                    if (comes && (next == NONE || wagons[cart].due < wagons[next].due)) {
                        next = cart;
                    }
                }
                if (next == NONE) {
                    return;
                }
                unload(wagons[next]);
            }
        }

        private void unload(Wagon wagon) {
            Trip trip = trips[wagon.job];
            int place = fleet.tos[wagon.job];
            int lasts = laws.handling(trip.carriage.weight);
            trip.unloaded = wagon.due + lasts;
            if (city.isWharf(place)) {
                trip.unloaded = Math.max(wagon.due, wharfFree[place]) + lasts;
                wharfFree[place] = trip.unloaded;
            }
            way.search(city, laws, place, trip.unloaded);
            int stand = way.soonest(city.stands);
            if (stand != NONE) {
                wearOut(wagon, stand, EMPTY);
                wagon.place = stand;
                wagon.due = way.reached[stand];
            }
            trip.back = wagon.due;
            wagon.phase = Wagon.RETURNING;
        }

        // what is told of it

        int tellTrip(int call, int what) {
            if (!made || !isIn(call, 0, calls - 1) || !trips[call].taken) {
                return NONE;
            }
            Trip trip = trips[call];
            switch (what) {
                case 0: return trip.carriage.cart;
                case 1: return trip.carriage.minute;
                case 2: return trip.carriage.wait;
                case 3: return trip.carriage.yards;
                case 4: return trip.carriage.turn;
                case 5: return trip.rate;
                case 6: return trip.unloaded;
                case 7: return trip.back;
                default: return NONE;
            }
        }

        int tellCart(int cart, int what) {
            if (!made || !isIn(cart, 0, carts - 1)) {
                return NONE;
            }
            Wagon wagon = wagons[cart];
            switch (what) {
                case 0: return capped(wagon.farthings);
                case 1: return wagon.trips;
                case 2: return wagon.away;
                case 3: return wagon.wear;
                case 4: return wagon.place;
                default: return NONE;
            }
        }

        int tellDay(int what) {
            if (!made) {
                return NONE;
            }
            switch (what) {
                case 0: return capped(sumFarthings());
                case 1: return sumWaits();
                case 2: return mostWait();
                case 3: return calls - taken;
                case 4: return sumWear();
                case 5: return countStood();
                default: return NONE;
            }
        }

        private long sumFarthings() {
            long sum = 0;
            for (int cart = 0; cart < carts; cart++) {
                sum += wagons[cart].farthings;
            }
            return sum;
        }

        private int sumWaits() {
            int sum = 0;
            for (int call = 0; call < calls; call++) {
                sum += trips[call].taken ? trips[call].carriage.wait : 0;
            }
            return sum;
        }

        private int mostWait() {
            int most = 0;
            for (int call = 0; call < calls; call++) {
                most = Math.max(most, trips[call].taken ? trips[call].carriage.wait : 0);
            }
            return most;
        }

        private int sumWear() {
            int sum = 0;
            for (int cart = 0; cart < carts; cart++) {
                sum += wagons[cart].wear;
            }
            return sum;
        }

        private int countStood() {
            int stood = 0;
            for (int cart = 0; cart < carts; cart++) {
                stood += wagons[cart].phase == Wagon.BARRED ? 0 : 1;
            }
            return stood;
        }

        /** What a cart pays of a cost that is parted by wear. */
        int share(int cost, int payer) {
            long all = sumWear();
            if (all <= 0) {
                return 0;
            }
            long own = (long) cost * wagons[payer].wear;
            long lacks = cost;
            int ahead = 0;
            for (int cart = 0; cart < carts; cart++) {
                long part = (long) cost * wagons[cart].wear;
                lacks -= part / all;
                boolean isAhead = part % all > own % all || part % all == own % all && cart < payer;
                ahead += isAhead ? 1 : 0;
            }
            return (int) (own / all) + (ahead < lacks ? 1 : 0);
        }
    }

    /** Looks for the places at which stands would keep calls waiting least. */
    private static final class Plan {
        /** Of each call and place, how long a drive from the place to the call's lasts; NEVER if there is none. */
        private final int[] lasts = new int[CALLS * PLACES];
        private final Drive way = new Drive();
        int chosen = NONE;

        int choose(City city, Laws laws, Fleet fleet, int n) {
            measure(city, laws, fleet);
            int least = NEVER;
            int best = NONE;
            for (int set = 1; set < 1 << PLACES; set++) {
                if (Integer.bitCount(set) != n) {
                    continue;
                }
                int sum = sumFor(set, fleet.calls, least);
                if (sum < least || sum == least && best != NONE && isAhead(set, best)) {
                    least = sum;
                    best = set;
                }
            }
            if (best == NONE) {
                return NONE;
            }
            chosen = best;
            return least;
        }

        private void measure(City city, Laws laws, Fleet fleet) {
            for (int call = 0; call < fleet.calls; call++) {
                int minute = fleet.minutes[call];
                int from = fleet.froms[call];
                for (int place = 0; place < PLACES; place++) {
                    int row = call * PLACES + place;
                    lasts[row] = NEVER;
                    if (city.isLinked(place, from)) {
                        way.search(city, laws, place, minute);
                        lasts[row] = way.reached[from] - minute;
                    }
                }
            }
        }

        /** The sum over the calls from the nearest place of a set, or more than the least so far; NEVER if one is reached from none. */
        private int sumFor(int set, int calls, int least) {
            int sum = 0;
            for (int call = 0; call < calls && sum <= least; call++) {
                int nearest = NEVER;
                for (int place = 0; place < PLACES; place++) {
                    if ((set >> place & 1) == 1) {
                        nearest = Math.min(nearest, lasts[call * PLACES + place]);
                    }
                }
                if (nearest == NEVER) {
                    return NEVER;
                }
                sum += nearest;
            }
            return sum;
        }

        private static boolean isAhead(int set, int other) {
            int differ = set ^ other;
            return (differ & -differ & set) != 0;
        }
    }
}
