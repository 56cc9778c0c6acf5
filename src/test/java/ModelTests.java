import java.util.ArrayList;
import java.util.Arrays;
import java.util.Comparator;
import java.util.List;
import java.util.Random;
import java.util.TreeSet;
import java.util.function.ToLongFunction;

/**
 * Random cities, by-laws, books and days, held against a second program that is slower and
 * plainer: it steps from minute to minute, and keeps lines and known acts as lists.
 */
public final class ModelTests {
    private static final int NONE = CartFellows.NONE;
    private static final int FAR = 1000000;
    private static final long MOST_TOLD = 2000000000L;

    private ModelTests() {
    }

    public static void main(String[] args) {
        for (int seed = 0; seed < 200; seed++) {
            new World(new Random(seed), "seed " + seed + " ").check();
        }
        Checks.close("ModelTests");
    }

    /** A number, or a test (0 or 1), of {kind, weight, yards, minute, wait, turn}, and its text. */
    private record Term(String text, ToLongFunction<int[]> value) {
    }

    private record Rule(Term sum, Term test) {
        long worth(int[] carriage) {
            return test.value.applyAsLong(carriage) == 1 ? sum.value.applyAsLong(carriage) : 0;
        }
    }

    private record Street(int a, int b, int minutes, int yards) {
        int across(int place) {
            return place == a ? b : place == b ? a : NONE;
        }
    }

    private record Call(int minute, int from, int to, int kind, int weight) {
    }

    private record Act(char sort, int of, int more, int[] carriage, int call, int cart) {
    }

    /** What a drive from a place from a minute on comes to. */
    private static final class Ride {
        final int[] there = new int[12];
        final int[] last = new int[12];
    }

    private static final class Cart {
        int home;
        int licence;
        int stand;
        int arrives = FAR;
        int back = FAR;
        int job = NONE;
        int left;
        int since;
        int work;
        long farthings;
        int trips;
        int away;
        int wear;
        boolean isBarred;
        boolean isAway;
    }

    private static final class Outcome {
        final List<Cart> carts = new ArrayList<>();
        final int[][] trips = new int[40][];
        final int[] streetWear = new int[24];
        int taken;
    }

    private static final class World {
        private final Random random;
        private final String seed;
        private CartFellows x = new CartFellows();
        private String laws = "";
        private int asked;
        private boolean ran;
        private boolean ranByTurns;
        private final List<Street> streets = new ArrayList<>();
        private final List<int[]> shuts = new ArrayList<>();
        private final List<Rule> rates = new ArrayList<>();
        private final List<Rule> fines = new ArrayList<>();
        private final int[] most = new int[8];
        private final TreeSet<Integer> stands = new TreeSet<>();
        private final TreeSet<Integer> wharves = new TreeSet<>();
        private final List<int[]> carts = new ArrayList<>();
        private final List<Call> calls = new ArrayList<>();
        private final List<Act> acts = new ArrayList<>();
        private int known = NONE;
        private int kinds;
        private int work = 1440;
        private int rest = 0;
        private int load = 1;
        private long bar = Long.MAX_VALUE;

        World(Random random, String seed) {
            this.random = random;
            this.seed = seed;
        }

        private void due(String what, long got, long want) {
            Checks.due(seed + what, got, want);
        }

        void check() {
            makeStreets();
            makeLaws();
            checkDrives();
            makeBook();
            checkBook();
            makeDay();
            boolean turns = random.nextBoolean();
            checkRun(turns);
            checkRun(!turns);
            checkGains();
            checkPlan();
            checkBooking();
        }

        // ---- asking: no object answers more than 512 calls

        private CartFellows ask() {
            asked++;
            if (asked > 200) {
                anew();
            }
            return x;
        }

        /** Another object that all has been told that this one was told. */
        private void anew() {
            x = new CartFellows();
            asked = 0;
            streets.forEach(street -> x.street(street.a, street.b, street.minutes, street.yards));
            Checks.laws(x, laws);
            acts.forEach(this::tell);
            x.as(known);
            stands.forEach(x::stand);
            wharves.forEach(place -> x.wharf(place, true));
            carts.forEach(cart -> x.cart(cart[0], cart[1]));
            calls.forEach(call -> x.call(call.minute, call.from, call.to, call.kind, call.weight));
            if (ran) {
                x.run(ranByTurns);
            }
        }

        private int tell(Act act) {
            int[] c = act.carriage;
            switch (act.sort) {
                case 'c': return x.told(act.call, act.cart, c[0], c[1], c[2], c[3], c[4], c[5] == 1);
                case 'w': return x.witness(act.of, act.more > 0);
                case 'a': return x.appeal(act.of, act.more);
                default: return x.annul(act.of);
            }
        }

        // ---- making

        private int upTo(int most) {
            return random.nextInt(most + 1);
        }

        private void makeStreets() {
            int places = 3 + upTo(9);
            for (int i = upTo(24); i > 0; i--) {
                int a = upTo(places - 1);
                int b = (a + 1 + upTo(places - 2)) % places;
                Street street = new Street(a, b, 1 + upTo(random.nextBoolean() ? 9 : 59), 1 + upTo(99));
                streets.add(street);
                due("street", x.street(a, b, street.minutes, street.yards), streets.size());
            }
        }

        private void makeLaws() {
            StringBuilder text = new StringBuilder();
            kinds = 1 + upTo(3);
            for (int kind = 0; kind < kinds; kind++) {
                most[kind] = 1 + upTo(random.nextBoolean() ? 30 : 998);
                text.append("kind k").append((char) ('a' + kind)).append(" most ").append(most[kind]).append(';');
            }
            for (int i = upTo(5); i > 0 && text.length() < 800; i--) {
                text.append(random.nextInt(4) == 0 ? setting() : random.nextInt(3) == 0 ? shutting() : ruling());
            }
            laws = text.toString();
            due("laws " + laws, Checks.laws(x, laws) >= 0 ? 1 : 0, 1);
        }

        private String setting() {
            switch (random.nextInt(3)) {
                case 0:
                    work = 1 + upTo(random.nextBoolean() ? 50 : 300);
                    rest = upTo(random.nextBoolean() ? 40 : 3);
                    return "work " + work + " rest " + rest + ";";
                case 1:
                    load = upTo(random.nextInt(5) == 0 ? 60 : 3);
                    return "load " + load + ";";
                default:
                    bar = upTo(300);
                    return "bar " + bar + ";";
            }
        }

        private String shutting() {
            StringBuilder text = new StringBuilder();
            for (int i = 1 + upTo(4); i > 0; i--) {
                Street street = streets.isEmpty() ? new Street(0, 1, 1, 1) : streets.get(upTo(streets.size() - 1));
                boolean there = random.nextBoolean();
                int begin = upTo(random.nextBoolean() ? 200 : 1439);
                int end = Math.min(1439, begin + upTo(random.nextBoolean() ? 100 : 1439));
                int[] shut = {there ? street.a : street.b, there ? street.b : street.a, begin, end};
                shuts.add(shut);
                text.append("shut ").append(shut[0]).append(" to ").append(shut[1]).append(" from ").append(begin)
                    .append(" to ").append(end).append(';');
            }
            return text.toString();
        }

        private String ruling() {
            Rule rule = new Rule(sum(2), test(2));
            String rest = rule.sum.text + " for " + rule.test.text + ";";
            if (rest.length() > 150) {
                return "";
            }
            if (fines.size() < 12 && random.nextBoolean()) {
                fines.add(rule);
                return "fine f" + (char) ('a' + fines.size() - 1) + " is " + rest;
            }
            rates.add(rule);
            return "rate " + rest;
        }

        private Term test(int depth) {
            Term left = both(depth);
            return random.nextInt(3) > 0 ? left : joined(left, " or ", both(depth));
        }

        private Term both(int depth) {
            Term left = fact(depth);
            return random.nextInt(3) > 0 ? left : joined(left, " and ", fact(depth));
        }

        private Term fact(int depth) {
            switch (random.nextInt(depth > 0 ? 7 : 5)) {
                case 0:
                    return new Term("all", c -> 1);
                case 1:
                    int kind = upTo(kinds - 1);
                    return new Term("is k" + (char) ('a' + kind), c -> c[0] == kind ? 1 : 0);
                case 5:
                    Term inner = test(depth - 1);
                    return new Term("[" + inner.text + "]", inner.value);
                case 6:
                    Term plain = fact(depth - 1);
                    return new Term("not " + plain.text, c -> 1 - plain.value.applyAsLong(c));
                default:
                    return joined(sum(depth - 1), "<>=".substring(random.nextInt(3)).substring(0, 1), sum(depth - 1));
            }
        }

        private Term sum(int depth) {
            Term sum = product(depth);
            for (int i = random.nextInt(3); i > 0; i--) {
                sum = joined(sum, random.nextBoolean() ? "+" : "-", product(depth));
            }
            return sum;
        }

        private Term product(int depth) {
            Term product = part(depth);
            for (int i = random.nextInt(3) - 1; i > 0; i--) {
                product = joined(product, random.nextBoolean() ? "*" : "/", part(depth));
            }
            return product;
        }

        private Term part(int depth) {
            String[] facts = {"weight", "yards", "minute", "wait", "turn"};
            int choice = random.nextInt(depth > 0 ? 10 : 7);
            if (choice < 5) {
                return new Term(facts[choice], c -> c[choice + 1]);
            }
            if (choice < 7) {
                int number = upTo(random.nextInt(4) == 0 ? 99999 : 30);
                return new Term(Integer.toString(number), c -> number);
            }
            Term one = sum(depth - 1);
            if (choice == 7) {
                return new Term("(" + one.text + ")", one.value);
            }
            Term two = sum(depth - 1);
            boolean least = choice == 8;
            return new Term((least ? "min(" : "max(") + one.text + "," + two.text + ")", c -> {
                long a = one.value.applyAsLong(c);
                long b = two.value.applyAsLong(c);
                return a < b == least ? a : b;
            });
        }

        private Term joined(Term left, String sign, Term right) {
            return new Term(left.text + sign + right.text, c -> {
                long a = left.value.applyAsLong(c);
                long b = right.value.applyAsLong(c);
                switch (sign) {
                    case "+": return bound(a + b);
                    case "-": return bound(a - b);
                    case "*": return bound(a * b);
                    case "/": return b == 0 ? 0 : (long) Math.floor((double) a / b);
                    case "<": return a < b ? 1 : 0;
                    case ">": return a > b ? 1 : 0;
                    case "=": return a == b ? 1 : 0;
                    case " or ": return a + b > 0 ? 1 : 0;
                    default: return a * b;
                }
            });
        }

        private static long bound(long sum) {
            return sum > 10000000 ? 10000000 : sum < -10000000 ? -10000000 : sum;
        }

        // ---- drives

        private boolean isShut(int from, int to, int minute) {
            for (int[] shut : shuts) {
                if (shut[0] == from && shut[1] == to && shut[2] <= minute && minute <= shut[3]) {
                    return true;
                }
            }
            return false;
        }

        /** From minute to minute: who has come to a place enters each street that is not shut. */
        private Ride ride(int start, int minute) {
            Ride ride = new Ride();
            Arrays.fill(ride.there, FAR);
            Arrays.fill(ride.last, NONE);
            ride.there[start] = minute;
            for (int now = minute; now <= Math.max(minute, 1440) + 12 * 60; now++) {
                for (Street street : streets) {
                    enter(ride, street.a, street.b, now, street.minutes);
                    enter(ride, street.b, street.a, now, street.minutes);
                }
            }
            for (int place = 0; place < 12; place++) {
                for (int i = streets.size() - 1; i >= 0 && place != start; i--) {
                    int from = streets.get(i).across(place);
                    if (from == NONE || ride.there[from] == FAR) {
                        continue;
                    }
                    int leaves = ride.there[from];
                    while (isShut(from, place, leaves)) {
                        leaves++;
                    }
                    ride.last[place] = leaves + streets.get(i).minutes == ride.there[place] ? i : ride.last[place];
                }
            }
            return ride;
        }

        private void enter(Ride ride, int from, int to, int now, int minutes) {
            if (ride.there[from] <= now && now + minutes < ride.there[to] && !isShut(from, to, now)) {
                ride.there[to] = now + minutes;
            }
        }

        private List<Integer> way(Ride ride, int to) {
            List<Integer> way = new ArrayList<>();
            for (int place = to; ride.last[place] != NONE; place = streets.get(ride.last[place]).across(place)) {
                way.add(ride.last[place]);
            }
            return way;
        }

        private int yards(List<Integer> way) {
            return way.stream().mapToInt(i -> streets.get(i).yards).sum();
        }

        private void checkDrives() {
            for (int i = 0; i < 4; i++) {
                int start = upTo(11);
                int minute = random.nextInt(5) == 0 ? upTo(9999) : upTo(1500);
                Ride ride = ride(start, minute);
                for (int to = 0; to < 12; to++) {
                    boolean is = ride.there[to] < FAR;
                    String what = "drive " + start + " " + to + " " + minute;
                    due(what, ask().drive(start, to, minute, 0), is ? ride.there[to] : NONE);
                    due(what + " yards", ask().drive(start, to, minute, 1), is ? yards(way(ride, to)) : NONE);
                    due(what + " street", ask().drive(start, to, minute, 2), ride.last[to]);
                }
            }
            for (int i = 0; i < 20 && !streets.isEmpty(); i++) {
                Street street = streets.get(upTo(streets.size() - 1));
                int minute = upTo(1439);
                due("shut", ask().shut(street.a, street.b, minute), isShut(street.a, street.b, minute) ? 1 : 0);
            }
        }

        // ---- the book

        private void makeBook() {
            for (int i = upTo(40); i > 0; i--) {
                int act = 1 + upTo(acts.size());
                int sort = random.nextInt(6);
                boolean is = random.nextBoolean();
                if (sort < 2) {
                    int[] c = {upTo(kinds - 1), 1 + upTo(99), upTo(200), upTo(1500), upTo(30), is ? 1 : 0};
                    acts.add(new Act('c', 0, 0, c, upTo(4), upTo(3)));
                    Act told = acts.get(acts.size() - 1);
                    due("told", x.told(told.call, told.cart, c[0], c[1], c[2], c[3], c[4], is), acts.size());
                } else if (sort < 4) {
                    addIf("witness", isCarriage(act), x.witness(act, is), new Act('w', act, is ? 1 : -1, null, 0, 0));
                } else if (sort == 4) {
                    int fine = upTo(fines.size());
                    boolean can = isCarriage(act) && fine < fines.size();
                    addIf("appeal", can, x.appeal(act, fine), new Act('a', act, fine, null, 0, 0));
                } else {
                    boolean can = act <= acts.size() && acts.get(act - 1).sort != 'v' && isKnown(act, acts.size());
                    addIf("annul", can, x.annul(act), new Act('v', act, 0, null, 0, 0));
                }
            }
            known = random.nextInt(3) == 0 ? upTo(acts.size()) : NONE;
            due("as", x.as(known) ? 1 : 0, 1);
        }

        private void addIf(String what, boolean can, int got, Act act) {
            if (can) {
                acts.add(act);
            }
            due(what, got, can ? acts.size() : NONE);
        }

        private boolean isCarriage(int act) {
            return act >= 1 && act <= acts.size() && acts.get(act - 1).sort == 'c';
        }

        private boolean isKnown(int act, int at) {
            for (int by = 1; by <= at; by++) {
                if (acts.get(by - 1).sort == 'v' && acts.get(by - 1).of == act) {
                    return false;
                }
            }
            return act <= at;
        }

        private int at() {
            return known == NONE ? acts.size() : known;
        }

        private int rate(int[] carriage) {
            long sum = 0;
            for (Rule rate : rates) {
                sum += rate.worth(carriage);
            }
            return (int) Math.max(0, sum);
        }

        private long fine(int act, int i) {
            for (int by = 1; by <= acts.size(); by++) {
                Act appeal = acts.get(by - 1);
                if (appeal.sort == 'a' && appeal.of == act && appeal.more == i && isKnown(by, at())) {
                    return 0;
                }
            }
            return Math.max(0, fines.get(i).worth(acts.get(act - 1).carriage));
        }

        private long finesOf(int cart) {
            long sum = 0;
            for (int act = 1; act <= acts.size(); act++) {
                for (int i = 0; i < fines.size() && isCarriage(act) && isKnown(act, at()); i++) {
                    sum += acts.get(act - 1).cart == cart ? fine(act, i) : 0;
                }
            }
            return sum;
        }

        private void checkBook() {
            due("acts", ask().all(4), acts.size());
            due("as", ask().all(5), at());
            for (int act = 1; act <= acts.size(); act++) {
                due("rate", ask().rate(act), isCarriage(act) ? rate(acts.get(act - 1).carriage) : NONE);
                for (int i = 0; i <= fines.size(); i++) {
                    boolean is = isCarriage(act) && isKnown(act, at()) && i < fines.size();
                    due("fine", ask().fine(act, i), is ? fine(act, i) : NONE);
                }
            }
            for (int cart = 0; cart < 5; cart++) {
                due("fines", ask().fines(cart), Math.min(MOST_TOLD, finesOf(cart)));
                due("barred", ask().barred(cart), finesOf(cart) > bar ? 1 : 0);
            }
            int quarrels = 0;
            for (int call = 0; call < 6; call++) {
                int right = right(call);
                quarrels += right > 0 ? 1 : 0;
                due("right", ask().right(call), right);
            }
            due("quarrels", ask().quarrels(), quarrels);
        }

        private int right(int call) {
            List<Integer> tellers = new ArrayList<>();
            TreeSet<Integer> who = new TreeSet<>();
            for (int act = 1; act <= acts.size(); act++) {
                if (isCarriage(act) && isKnown(act, at()) && acts.get(act - 1).call == call) {
                    tellers.add(act);
                    who.add(acts.get(act - 1).cart);
                }
            }
            tellers.sort(Comparator.comparing(act -> -witnesses(act)));
            return who.size() < 2 ? 0 : tellers.get(0);
        }

        private int witnesses(int carriage) {
            int sum = 0;
            for (int act = 1; act <= acts.size(); act++) {
                Act witness = acts.get(act - 1);
                sum += witness.sort == 'w' && witness.of == carriage && isKnown(act, at()) ? witness.more : 0;
            }
            return sum;
        }

        // ---- the day

        private void makeDay() {
            for (int i = 1 + upTo(3); i > 0; i--) {
                int place = upTo(7);
                stands.add(place);
                x.stand(place);
            }
            for (int i = upTo(4); i > 0; i--) {
                int place = upTo(7);
                wharves.add(place);
                x.wharf(place, true);
            }
            for (int i = upTo(8); i > 0; i--) {
                List<Integer> homes = new ArrayList<>(stands);
                int[] cart = {homes.get(upTo(homes.size() - 1)), random.nextInt(3) == 0 ? random.nextInt() : -1};
                due("cart", x.cart(cart[0], cart[1]), carts.size());
                carts.add(cart);
            }
            int width = random.nextInt(4) == 0 ? 1439 : random.nextBoolean() ? 30 : 200;
            for (int i = upTo(20); i > 0; i--) {
                int minute = random.nextInt(20) == 0 ? 1439 - upTo(60) : upTo(width);
                int from = upTo(7);
                int kind = upTo(kinds - 1);
                int weight = 1 + upTo(random.nextInt(3) == 0 ? 998 : Math.min(most[kind], 40));
                Call call = new Call(minute, from, (from + 1 + upTo(6)) % 8, kind, Math.min(weight, 999));
                due("call", x.call(minute, from, call.to, kind, call.weight), calls.size());
                calls.add(call);
            }
        }

        private int handling(int weight) {
            int tens = 0;
            while (tens * 10 < weight) {
                tens++;
            }
            return tens * load;
        }

        private Outcome outcome(boolean turns) {
            Outcome out = new Outcome();
            List<List<Integer>> lines = new ArrayList<>();
            List<List<Integer>> queues = new ArrayList<>();
            for (int place = 0; place < 12; place++) {
                lines.add(new ArrayList<>());
                queues.add(new ArrayList<>());
            }
            for (int i = 0; i < carts.size(); i++) {
                Cart cart = new Cart();
                out.carts.add(cart);
                cart.home = carts.get(i)[0];
                cart.licence = carts.get(i)[1];
                cart.stand = cart.home;
                cart.isBarred = finesOf(i) > bar;
                if (!cart.isBarred) {
                    lines.get(cart.home).add(i);
                }
            }
            List<Integer> waiting = new ArrayList<>();
            int[] busy = new int[12];
            for (int minute = 0; minute < 1440 || out.carts.stream().anyMatch(c -> c.isAway); minute++) {
                unloadAt(minute, out, queues, busy);
                comeBackAt(minute, out, lines);
                for (int call = 0; call < calls.size(); call++) {
                    if (calls.get(call).minute == minute) {
                        waiting.add(call);
                    }
                }
                for (int i = 0; i < waiting.size() && minute < 1440; i++) {
                    int cart = pick(out, lines, waiting.get(i), minute, turns);
                    if (cart != NONE) {
                        send(out, lines, cart, waiting.get(i), minute);
                        waiting.remove(i);
                        i--;
                    }
                }
            }
            return out;
        }

        private void unloadAt(int minute, Outcome out, List<List<Integer>> queues, int[] busy) {
            for (int i = 0; i < out.carts.size(); i++) {
                if (out.carts.get(i).arrives == minute) {
                    queues.get(calls.get(out.carts.get(i).job).to).add(i);
                }
            }
            for (int place = 0; place < 12; place++) {
                while (!queues.get(place).isEmpty() && (busy[place] <= minute || !wharves.contains(place))) {
                    Cart cart = out.carts.get(queues.get(place).remove(0));
                    int done = minute + handling(calls.get(cart.job).weight);
                    busy[place] = done;
                    cart.arrives = FAR;
                    Ride ride = ride(place, done);
                    int nearest = NONE;
                    for (int stand : stands) {
                        nearest = nearest == NONE || ride.there[stand] < ride.there[nearest] ? stand : nearest;
                    }
                    wearOut(out, cart, way(ride, nearest), 5);
                    cart.stand = nearest;
                    cart.back = ride.there[nearest];
                    out.trips[cart.job][6] = done;
                    out.trips[cart.job][7] = cart.back;
                }
            }
        }

        private void comeBackAt(int minute, Outcome out, List<List<Integer>> lines) {
            for (int i = 0; i < out.carts.size(); i++) {
                Cart cart = out.carts.get(i);
                if (cart.isAway && cart.back == minute) {
                    cart.isAway = false;
                    cart.back = FAR;
                    cart.since = minute;
                    cart.work += minute - cart.left;
                    cart.away += minute - cart.left;
                    lines.get(cart.stand).add(i);
                }
                if (!cart.isAway && minute - cart.since >= rest) {
                    cart.work = 0;
                }
            }
        }

        private boolean may(Outcome out, int i, Call call, int minute) {
            Cart cart = out.carts.get(i);
            boolean can = !cart.isBarred && !cart.isAway && (cart.licence & 1 << call.kind) != 0
                && call.weight <= most[call.kind] && cart.work < work;
            return can && linked(cart.stand).contains(call.from) && linked(cart.stand).contains(call.to);
        }

        private TreeSet<Integer> linked(int place) {
            TreeSet<Integer> all = new TreeSet<>(List.of(place));
            for (int round = 0; round < 12; round++) {
                for (Street street : streets) {
                    if (all.contains(street.a) || all.contains(street.b)) {
                        all.add(street.a);
                        all.add(street.b);
                    }
                }
            }
            return all;
        }

        private int pick(Outcome out, List<List<Integer>> lines, int number, int minute, boolean turns) {
            Call call = calls.get(number);
            List<Integer> able = new ArrayList<>();
            for (int i = 0; i < out.carts.size(); i++) {
                if (may(out, i, call, minute)) {
                    able.add(i);
                }
            }
            if (able.isEmpty()) {
                return NONE;
            }
            int[] there = new int[12];
            for (int stand : stands) {
                there[stand] = ride(stand, minute).there[call.from];
            }
            if (!turns) {
                able.sort(Comparator.<Integer>comparingLong(i -> out.carts.get(i).farthings)
                    .thenComparing(i -> there[out.carts.get(i).stand]).thenComparing(i -> i));
                return able.get(0);
            }
            int best = NONE;
            for (int stand : stands) {
                boolean has = lines.get(stand).stream().anyMatch(able::contains);
                best = has && (best == NONE || there[stand] < there[best]) ? stand : best;
            }
            return lines.get(best).stream().filter(able::contains).findFirst().get();
        }

        private void send(Outcome out, List<List<Integer>> lines, int i, int number, int minute) {
            Call call = calls.get(number);
            Cart cart = out.carts.get(i);
            int turn = lines.get(cart.stand).get(0) == i ? 1 : 0;
            lines.get(cart.stand).remove(Integer.valueOf(i));
            Ride there = ride(cart.stand, minute);
            wearOut(out, cart, way(there, call.from), 5);
            int begins = there.there[call.from];
            Ride loaded = ride(call.from, begins + handling(call.weight));
            List<Integer> way = way(loaded, call.to);
            wearOut(out, cart, way, 5 + call.weight);
            int[] carriage = {call.kind, call.weight, yards(way), begins, begins - call.minute, turn};
            int rate = rate(carriage);
            out.trips[number] = new int[] {i, begins, begins - call.minute, carriage[2], turn, rate, 0, 0};
            out.taken++;
            cart.farthings += rate;
            cart.trips++;
            cart.isAway = true;
            cart.left = minute;
            cart.job = number;
            cart.arrives = loaded.there[call.to];
        }

        private void wearOut(Outcome out, Cart cart, List<Integer> way, int each) {
            for (int street : way) {
                out.streetWear[street] += streets.get(street).yards * each;
                cart.wear += streets.get(street).yards * each;
            }
        }

        private void checkRun(boolean turns) {
            Outcome out = outcome(turns);
            String what = turns ? "turns " : "free ";
            due(what, x.run(turns), out.taken);
            ran = true;
            ranByTurns = turns;
            int waits = 0;
            int longest = 0;
            for (int call = 0; call < calls.size(); call++) {
                int[] trip = out.trips[call];
                waits += trip == null ? 0 : trip[2];
                longest = Math.max(longest, trip == null ? 0 : trip[2]);
                for (int k = 0; k < 8; k++) {
                    due(what + "taken " + call + " " + k, ask().taken(call, k), trip == null ? NONE : trip[k]);
                }
            }
            long farthings = 0;
            int wear = 0;
            int stood = 0;
            for (int i = 0; i < carts.size(); i++) {
                Cart cart = out.carts.get(i);
                farthings += cart.farthings;
                wear += cart.wear;
                stood += cart.isBarred ? 0 : 1;
                long[] told = {Math.min(cart.farthings, MOST_TOLD), cart.trips, cart.away, cart.wear,
                    cart.isBarred ? NONE : cart.stand};
                for (int k = 0; k < 5; k++) {
                    due(what + "cartOf " + i + " " + k, ask().cartOf(i, k), told[k]);
                }
            }
            long[] day = {Math.min(farthings, MOST_TOLD), waits, longest, calls.size() - out.taken, wear, stood};
            for (int k = 0; k < 6; k++) {
                due(what + "day " + k, ask().day(k), day[k]);
            }
            for (int street = 0; street < streets.size(); street++) {
                due(what + "wear " + street, ask().wear(street), out.streetWear[street]);
            }
            checkParts(out, wear);
        }

        private void checkParts(Outcome out, long all) {
            int cost = random.nextBoolean() ? upTo(20) : upTo(1000000);
            long[] pays = new long[out.carts.size()];
            if (all > 0) {
                List<Integer> order = new ArrayList<>();
                long lacks = cost;
                for (int i = 0; i < pays.length; i++) {
                    pays[i] = cost * (long) out.carts.get(i).wear / all;
                    lacks -= pays[i];
                    order.add(i);
                }
                order.sort(Comparator.comparing(i -> -(cost * (long) out.carts.get(i).wear % all)));
                for (int i = 0; i < lacks; i++) {
                    pays[order.get(i)]++;
                }
            }
            for (int i = 0; i < pays.length; i++) {
                due("part", ask().part(cost, i), pays[i]);
            }
        }

        private void checkGains() {
            Outcome turns = outcome(true);
            Outcome free = outcome(false);
            for (int i = 0; i < carts.size(); i++) {
                long want = Math.min(MOST_TOLD, turns.carts.get(i).farthings) - Math.min(MOST_TOLD, free.carts.get(i).farthings);
                due("gains", ask().gains(i), want);
            }
        }

        private void checkPlan() {
            int[][] lasts = new int[calls.size()][12];
            for (int call = 0; call < calls.size(); call++) {
                for (int place = 0; place < 12; place++) {
                    lasts[call][place] = ride(place, calls.get(call).minute).there[calls.get(call).from] - calls.get(call).minute;
                }
            }
            int before = NONE;
            for (int n = 1; n <= 6; n++) {
                int[] best = {NONE, 0};
                search(lasts, n, 0, new ArrayList<>(), best);
                boolean is = best[0] != NONE && !calls.isEmpty();
                before = is ? best[1] : before;
                due("plan", x.plan(n), is ? best[0] : NONE);
                due("planned", x.planned(), before);
            }
        }

        /** All sets of n places, those with lesser places first. */
        private void search(int[][] lasts, int n, int from, List<Integer> set, int[] best) {
            if (set.size() == n) {
                long sum = 0;
                for (int[] call : lasts) {
                    sum += set.stream().mapToInt(place -> call[place]).min().getAsInt();
                }
                if (sum < FAR / 2 && (best[0] == NONE || sum < best[0])) {
                    best[0] = (int) sum;
                    best[1] = set.stream().mapToInt(place -> 1 << place).sum();
                }
                return;
            }
            for (int place = from; place < 12; place++) {
                set.add(place);
                search(lasts, n, place + 1, set, best);
                set.remove(set.size() - 1);
            }
        }

        private void checkBooking() {
            Outcome out = outcome(false);
            x.run(false);
            for (int call = 0; call < calls.size(); call++) {
                int[] trip = out.trips[call];
                if (trip != null) {
                    Call c = calls.get(call);
                    acts.add(new Act('c', 0, 0, new int[] {c.kind, c.weight, trip[3], trip[1], trip[2], trip[4]}, call, trip[0]));
                }
            }
            due("book", x.book(), out.taken);
            due("book again", x.book(), NONE);
            known = NONE;
            x.as(known);
            checkBook();
        }
    }
}
