import java.util.ArrayList;
import java.util.LinkedHashSet;
import java.util.List;
import java.util.Random;
import java.util.Set;

/** Promises 5 and 6: which texts are by-laws, and the first fault of those that are none. */
public final class LawTests {
    private static final int NONE = CartFellows.NONE;

    private LawTests() {
    }

    public static void main(String[] args) {
        goodTexts();
        firstFaults();
        limits();
        againstTheGrammar();
        Checks.close("LawTests");
    }

    private static void good(String text, int statements) {
        CartFellows x = new CartFellows();
        Checks.due("5 " + text, Checks.laws(x, text), statements);
        Checks.due("6 fault of " + text, x.fault(0), 0);
        Checks.due("6 place of " + text, x.fault(1), NONE);
    }

    private static void bad(String text, int fault, int place) {
        CartFellows x = new CartFellows();
        Checks.due("5 " + text, Checks.laws(x, text), NONE);
        Checks.due("6 fault of " + text, x.fault(0), fault);
        Checks.due("6 place of " + text, x.fault(1), place);
    }

    /** A text whose fault stands where the sign ^ does (which goes). */
    private static void at(int fault, String text) {
        int place = text.indexOf('^');
        bad(text.substring(0, place) + text.substring(place + 1), fault, place);
    }

    private static void goodTexts() {
        good("", 0);
        good(" \n ", 0);
        good("kind a most 1;kind b most 999;fine abcdefgh is 0 for all;", 3);
        good("kind a most 00005;shut 0 to 11 from 0 to 0;shut 11 to 0 from 1439 to 1439;", 3);
        good("work 1 rest 0;work 1440 rest 600;load 0;load 60;bar 0;bar 99999;", 6);
        good("rate(1)for[all];", 1);
        good("rate\n1\nfor\n1\n<\n2\n;\n", 1);
        good("rate 1 for 1<2and 3>4or not 5=6;".replace("2and", "2 and").replace("4or", "4 or"), 1);
        good("rate min(1,max(2,yards))-minute*wait/turn+weight for not not not all and [is a];".replace("is a", "all"), 1);
        good("kind a most 5;rate 1 for is a;", 2);
        good("rate ((((((((1)))))))) for [[[[[[[[all]]]]]]]];", 1);
        good("rate 1 for [[[[((((1))))=1]]]];", 1);
        good("rate 1 for ((((((((1))))))))=((((((((1))))))));", 1);
    }

    private static void firstFaults() {
        at(1, "^x");
        at(1, "^;");
        at(1, "^5");
        at(1, "^kin");
        at(1, "^kinda most 5;");
        at(1, "kind ^");
        at(1, "kind  ^");
        at(1, "kind^5 most 5;");
        at(1, "kind ^5 most 5;");
        at(1, "kind ^most most 5;");
        at(1, "kind ^turn most 5;");
        at(1, "kind a ^5;");
        at(1, "kind a^5 most 5;");
        at(1, "kind a most^5;");
        at(1, "kind a most 5^x;");
        at(1, "kind a most ^a;");
        at(1, "kind a most 5^");
        at(1, "kind a most 5 ^5;");
        at(1, "kind a most 5;^A");
        at(1, "kind a most 5;^\t");
        at(1, "kind a most 5;^" + (char) 0);
        at(1, "kind a most 5;^" + (char) 225);
        at(1, "kind a most 5;^;");
        at(1, "fine a ^5 for all;");
        at(1, "fine a is ^for all;");
        at(1, "fine a is ^-1 for all;");
        at(1, "fine a is 5 ^all;");
        at(1, "fine a is 5 for ^;");
        at(1, "fine a is 5 for all ^5;");
        at(1, "fine a is (5^;");
        at(1, "fine a is 5^) for all;");
        at(1, "fine a is min^5;");
        at(1, "fine a is min(5^) for all;");
        at(1, "fine a is min(5,5^, 5) for all;");
        at(1, "fine a is 5 for 5 ^;");
        at(1, "fine a is 5 for 5<5^<5;");
        at(1, "fine a is 5 for 5<^=5;");
        at(1, "fine a is 5 for not ^;");
        at(1, "fine a is 5 for [all^;");
        at(1, "fine a is 5 for (^all);");
        at(1, "fine a is 5 for all^];");
        at(1, "fine a is 5 for is ^5;");
        at(1, "fine a is 5 for is ^is;");
        at(1, "fine a is 5 for all or^;");
        at(1, "fine a is 5 for all and ^or;");
        at(1, "fine a is ^[5] for all;");
        at(1, "shut 5 ^6 from 5 to 7;");
        at(1, "shut 5 to 6 ^to 5 from 7;");
        at(1, "work 5 ^;");
        at(1, "bar^;");
        at(1, "load ^bar;");
        // a 9th letter, a 6th digit
        at(1, "abcdefgh^i");
        at(1, "kind abcdefgh^i most 5;");
        at(1, "kind a most abcdefgh^ijk");
        at(1, "12345^6");
        at(1, "kind 12345^6");
        at(1, "kind a most 00000^1;");
        at(1, "rate 10000^0 for all;");
        at(1, "fine a is 5 for all; kind abcdefgh^i");
        // names
        at(2, "kind a most 5;kind ^a most 5;");
        at(2, "kind a most 5;fine ^a is 5 for all;");
        at(2, "fine a is 5 for all;kind ^a most 5;");
        at(2, "fine a is 5 for all;fine ^a;");
        at(2, "kind a most 5;kind ^a5;");
        at(1, "kind a most 5;kind aa most^;");
        at(3, "rate 5 for is ^a;");
        at(3, "rate 5 for is ^a;kind a most 5;");
        at(3, "fine a is 5 for is ^a;");
        at(3, "kind a most 5;rate 5 for not [all and is ^aa");
        at(3, "kind aa most 5;rate 5 for is ^a5");
        // numbers
        at(4, "kind a most ^0;");
        at(4, "kind a most ^1000;");
        at(4, "kind a most ^1000x");
        at(4, "shut ^12 to 5 from 5 to 7;");
        at(4, "shut 5 to ^12 from 5 to 7;");
        at(4, "shut 5 to ^5 from 5 to 7;");
        at(4, "shut 5 to ^05x");
        at(4, "shut 5 to 6 from ^1440 to 7;");
        at(4, "shut 5 to 6 from 5 to ^1440;");
        at(4, "shut 5 to 6 from 5 to ^4;");
        at(4, "work ^0 rest 5;");
        at(4, "work ^1441 rest 5;");
        at(4, "work 5 rest ^601;");
        at(4, "load ^61;");
        // open too much
        at(5, "rate ((((((((^(1");
        at(5, "rate min((((((((^(1");
        at(5, "rate (((((((min(1,max^(");
        at(5, "rate 1 for [[[[[[[[^[");
        at(5, "rate 1 for [[[[((((^(");
        at(5, "rate 1 for [[[[[[[[^(");
        at(1, "rate 1 for ((((((((^[");
        at(1, "rate (((((((((".substring(0, 13) + "^)");
    }

    private static void limits() {
        StringBuilder kinds = new StringBuilder();
        for (int i = 0; i < 8; i++) {
            kinds.append("kind k").append((char) ('a' + i)).append(" most 5;");
        }
        good(kinds.toString(), 8);
        at(5, kinds + "^kind ka most 5;");
        at(5, kinds + "^kind");
        at(1, kinds + "^kinds");
        StringBuilder fines = new StringBuilder();
        for (int i = 0; i < 12; i++) {
            fines.append("fine f").append((char) ('a' + i)).append(" is 5 for all;");
        }
        good(fines.toString(), 12);
        good(fines.toString() + kinds, 20);
        at(5, fines + "^fine fa is 5 for all;");
        String[] others = {"bar 5;", "load 5;", "rate 5 for all;", "work 5 rest 5;", "shut 0 to 1 from 0 to 0;"};
        StringBuilder laws = new StringBuilder();
        for (int i = 0; i < 30; i++) {
            laws.append(others[i % 5]);
        }
        good(laws.toString(), 30);
        good(laws + "kind a most 5;fine b is 1 for all;", 32);
        for (String other : others) {
            at(5, laws + "^" + other);
        }
        StringBuilder nots = new StringBuilder("rate 1 for ");
        while (nots.length() < 980) {
            nots.append("not ");
        }
        good(nots + "all;", 1);
        StringBuilder sums = new StringBuilder("rate 1");
        while (sums.length() < 990) {
            sums.append("+1");
        }
        good(sums + " for all; ", 1);
        at(1, sums + " for all  ^");
    }

    // ---- against a grammar that is read in another way: all that may still stand is kept, as lists of parts

    private static final String[] STATEMENTS = {
        "kind NEWKIND most 1-999 ;", "fine NEWFINE is SUM for TEST ;", "shut PLACE1 to PLACE2 from BEGIN to FINISH ;",
        "rate SUM for TEST ;", "work 1-1440 rest 0-600 ;", "load 0-60 ;", "bar 0-99999 ;"};

    private static String[] parts(String symbol) {
        switch (symbol) {
            case "TEXT":
                String[] texts = new String[STATEMENTS.length + 1];
                texts[0] = "";
                for (int i = 0; i < STATEMENTS.length; i++) {
                    texts[i + 1] = STATEMENTS[i] + " TEXT";
                }
                return texts;
            case "TEST": return new String[] {"BOTH ORS"};
            case "ORS": return new String[] {"", "or BOTH ORS"};
            case "BOTH": return new String[] {"FACT ANDS"};
            case "ANDS": return new String[] {"", "and FACT ANDS"};
            case "FACT": return new String[] {"not FACT", "[ TEST ]", "all", "is KINDNAME", "SUM < SUM", "SUM > SUM", "SUM = SUM"};
            case "SUM": return new String[] {"PRODUCT MORES"};
            case "MORES": return new String[] {"", "+ PRODUCT MORES", "- PRODUCT MORES"};
            case "PRODUCT": return new String[] {"PART TIMES"};
            case "TIMES": return new String[] {"", "* PART TIMES", "/ PART TIMES"};
            case "PART": return new String[] {"0-99999", "yards", "weight", "minute", "wait", "turn", "( SUM )",
                "min ( SUM , SUM )", "max ( SUM , SUM )"};
            default: return null;
        }
    }

    private static final Set<String> OWN = Set.of("kind", "most", "shut", "to", "from", "rate", "for", "fine", "is", "work",
        "rest", "load", "bar", "or", "and", "not", "all", "yards", "weight", "minute", "wait", "turn", "min", "max");

    /** What a text's first fault is, and its place: {0, NONE} if there is none. */
    private static int[] judge(String text) {
        Set<String> stacks = new LinkedHashSet<>();
        stacks.add("TEXT");
        List<String> kinds = new ArrayList<>();
        List<String> fines = new ArrayList<>();
        int[] counts = new int[3];
        int open = 0;
        int first = 0;
        int at = 0;
        while (true) {
            int before = at;
            while (at < text.length() && (text.charAt(at) == ' ' || text.charAt(at) == 10)) {
                at++;
            }
            Set<String> ready = expand(stacks);
            if (at == text.length()) {
                return ready.contains("") ? new int[] {0, NONE} : new int[] {1, at};
            }
            boolean touches = at > 0 && before == at && Character.toString(text.charAt(at)).matches("[a-z0-9]")
                && Character.toString(text.charAt(at - 1)).matches("[a-z0-9]");
            if (touches) {
                return new int[] {1, at};
            }
            int end = tokenEnd(text, at);
            String token = text.substring(at, end);
            if (token.matches("[a-z]{9,}")) {
                return new int[] {1, at + 8};
            }
            if (token.matches("[0-9]{6,}")) {
                return new int[] {1, at + 5};
            }
            Set<String> next = new LinkedHashSet<>();
            String asked = "";
            for (String stack : ready) {
                String symbol = stack.split(" ")[0];
                if (!stack.isEmpty() && suits(symbol, token)) {
                    asked = symbol;
                    next.add(stack.substring(symbol.length()).trim());
                }
            }
            if (next.isEmpty()) {
                return new int[] {1, at};
            }
            int fault = meaning(asked, token, kinds, fines, first, counts);
            open += "([".contains(token) ? 1 : ")]".contains(token) ? -1 : 0;
            if (fault != 0 || open > 8) {
                return new int[] {fault != 0 ? fault : 5, at};
            }
            first = token.matches("[0-9]+") ? Integer.parseInt(token) : first;
            stacks = next;
            at = end;
        }
    }

    private static Set<String> expand(Set<String> stacks) {
        Set<String> done = new LinkedHashSet<>();
        List<String> open = new ArrayList<>(stacks);
        while (!open.isEmpty()) {
            String stack = open.remove(open.size() - 1);
            String symbol = stack.split(" ")[0];
            String[] parts = parts(symbol);
            if (parts == null) {
                done.add(stack);
                continue;
            }
            for (String part : parts) {
                open.add((part + stack.substring(symbol.length())).trim());
            }
        }
        return done;
    }

    private static int tokenEnd(String text, int at) {
        String of = Character.isLowerCase(text.charAt(at)) && text.charAt(at) < 128 ? "[a-z]"
            : text.charAt(at) >= '0' && text.charAt(at) <= '9' ? "[0-9]" : "";
        int end = at + 1;
        while (!of.isEmpty() && end < text.length() && Character.toString(text.charAt(end)).matches(of)) {
            end++;
        }
        return end;
    }

    private static boolean suits(String symbol, String token) {
        if (symbol.equals("NEWKIND") || symbol.equals("NEWFINE") || symbol.equals("KINDNAME")) {
            return token.matches("[a-z]+") && !OWN.contains(token);
        }
        if (symbol.matches("[0-9]+-[0-9]+|PLACE1|PLACE2|BEGIN|FINISH")) {
            return token.matches("[0-9]+");
        }
        return symbol.equals(token);
    }

    private static int meaning(String symbol, String token, List<String> kinds, List<String> fines, int first, int[] counts) {
        switch (symbol) {
            case "kind":
                return ++counts[0] > 8 ? 5 : 0;
            case "fine":
                return ++counts[1] > 12 ? 5 : 0;
            case "shut": case "rate": case "work": case "load": case "bar":
                return ++counts[2] > 30 ? 5 : 0;
            case "NEWKIND": case "NEWFINE":
                boolean there = kinds.contains(token) || fines.contains(token);
                (symbol.equals("NEWKIND") ? kinds : fines).add(token);
                return there ? 2 : 0;
            case "KINDNAME":
                return kinds.contains(token) ? 0 : 3;
            case "PLACE1":
                return within(token, 0, 11, NONE);
            case "PLACE2":
                return within(token, 0, 11, first);
            case "BEGIN":
                return within(token, 0, 1439, NONE);
            case "FINISH":
                return within(token, first, 1439, NONE);
            default:
                String[] ends = symbol.split("-");
                boolean isRange = symbol.matches("[0-9]+-[0-9]+");
                return isRange ? within(token, Integer.parseInt(ends[0]), Integer.parseInt(ends[1]), NONE) : 0;
        }
    }

    private static int within(String token, int least, int most, int unlike) {
        int number = Integer.parseInt(token);
        return number < least || number > most || number == unlike ? 4 : 0;
    }

    private static void againstTheGrammar() {
        Random random = new Random(7);
        CartFellows x = new CartFellows();
        int[] seen = new int[6];
        for (int round = 0; round < 6000; round++) {
            String text = randomText(random);
            for (int i = random.nextInt(3); i > 0; i--) {
                text = mutated(text, random);
            }
            if (text.length() > 1000) {
                text = text.substring(0, 1000);
            }
            if (round % 5 == 0) {
                x = new CartFellows();
            }
            int[] want = judge(text);
            seen[want[0]]++;
            Checks.due("5 " + text, Checks.laws(x, text) < 0 ? 1 : 0, want[0] == 0 ? 0 : 1);
            Checks.due("6 fault of " + text, x.fault(0), want[0]);
            Checks.due("6 place of " + text, x.fault(1), want[1]);
        }
        for (int fault = 0; fault < 6; fault++) {
            Checks.holds("the random texts have fault " + fault, seen[fault] > 30);
        }
    }

    private static String randomText(Random random) {
        StringBuilder text = new StringBuilder();
        int many = random.nextInt(10) == 0 ? 34 : 6;
        List<String> open = new ArrayList<>();
        for (int i = random.nextInt(many); i > 0; i--) {
            open.add(STATEMENTS[random.nextInt(7)]);
        }
        for (String statement : open) {
            int budget = random.nextInt(60);
            write(text, statement, random, new int[] {budget});
        }
        return text.toString();
    }

    private static void write(StringBuilder text, String symbols, Random random, int[] budget) {
        for (String symbol : symbols.split(" ")) {
            String[] parts = parts(symbol);
            budget[0]--;
            if (symbol.isEmpty()) {
                continue;
            }
            if (parts != null) {
                int choice = random.nextInt(parts.length);
                if (budget[0] < 0) {
                    choice = symbol.equals("FACT") ? 2 : 0;
                }
                write(text, parts[choice], random, budget);
                continue;
            }
            String token = token(symbol, random);
            boolean touches = text.length() > 0 && Character.isLetterOrDigit(text.charAt(text.length() - 1))
                && Character.isLetterOrDigit(token.charAt(0));
            text.append(touches ? random.nextBoolean() ? " " : "\n" : random.nextInt(8) == 0 ? "  " : "").append(token);
        }
    }

    private static String token(String symbol, Random random) {
        if (symbol.matches("[0-9]+-[0-9]+")) {
            String[] ends = symbol.split("-");
            int least = Integer.parseInt(ends[0]);
            int most = Integer.parseInt(ends[1]);
            return Integer.toString(random.nextInt(25) == 0 ? random.nextInt(100000) : least + random.nextInt(most - least + 1));
        }
        switch (symbol) {
            case "NEWKIND": case "NEWFINE":
                return Character.toString('a' + random.nextInt(12)) + Character.toString('p' + random.nextInt(3));
            case "KINDNAME":
                return random.nextInt(3) == 0 ? "ap" : "zz";
            case "PLACE1": case "PLACE2":
                return Integer.toString(random.nextInt(12));
            case "BEGIN":
                return Integer.toString(random.nextInt(700));
            case "FINISH":
                return Integer.toString(random.nextInt(10) == 0 ? random.nextInt(2000) : 700 + random.nextInt(740));
            default:
                return symbol;
        }
    }

    private static String mutated(String text, Random random) {
        int at = random.nextInt(text.length() + 1);
        String rest = text.substring(at);
        String[] pieces = {";", " ", "(", "[", ")", "]", ",", "5", "x", "is", " or ", " and ", "not ", "A", "99999", "abcdefgh", " all",
            "((((((((", "[[[[[[[[[", "=", "for", "\n", "kind ap most 5;", "rate 1 for is ap;", "0", "!"};
        int ahead = text.indexOf(" for", at);
        switch (random.nextInt(5)) {
            case 4:
                return ahead < 0 ? text : text.substring(0, ahead) + "+" + "min((((((((((".substring(0, 9 + random.nextInt(5))
                    + text.substring(ahead);
            case 0:
                return text.substring(0, at);
            case 1:
                return text.substring(0, at) + (rest.isEmpty() ? "" : rest.substring(1));
            case 2:
                return pieces[random.nextInt(2) + 22] + text;
            default:
                return text.substring(0, at) + pieces[random.nextInt(pieces.length)] + rest;
        }
    }
}
