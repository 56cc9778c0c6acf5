import java.io.IOException;
import java.lang.management.ManagementFactory;
import java.lang.reflect.Array;
import java.lang.reflect.Constructor;
import java.lang.reflect.Field;
import java.lang.reflect.Method;
import java.lang.reflect.Modifier;
import java.nio.file.Files;
import java.nio.file.Path;
import java.util.ArrayDeque;
import java.util.Arrays;
import java.util.Collections;
import java.util.Deque;
import java.util.IdentityHashMap;
import java.util.Random;
import java.util.Set;
import java.util.TreeSet;

/** The public face, the rules of the language that can be seen from outside, the room that an object takes, and wild calls. */
public final class FaceTests {
    private static final String[] FACE = {
        "int feed(int,int,int,int,int)", "boolean end(int)", "int street(int,int,int,int)", "int laws()", "int fault(int)",
        "int name(boolean,int,int)", "int shut(int,int,int)", "int drive(int,int,int,int)",
        "int told(int,int,int,int,int,int,int,boolean)", "int witness(int,boolean)", "int appeal(int,int)", "int annul(int)",
        "boolean as(int)", "int rate(int)", "int fine(int,int)", "int fines(int)", "int barred(int)", "int quarrels()",
        "int right(int)", "int stand(int)", "boolean wharf(int,boolean)", "int cart(int,int)", "int call(int,int,int,int,int)",
        "int run(boolean)", "int taken(int,int)", "int cartOf(int,int)", "int day(int)", "int wear(int)", "int part(int,int)",
        "int gains(int)", "int book()", "int plan(int)", "int planned()", "int all(int)"};

    private FaceTests() {
    }

    public static void main(String[] args) throws IOException, IllegalAccessException {
        face();
        inside();
        source(Path.of(args.length > 0 ? args[0] : "src/main/java/CartFellows.java"));
        room();
        wildCalls();
        noObjects();
        Checks.close("FaceTests");
    }

    private static void face() {
        Class<CartFellows> type = CartFellows.class;
        Checks.holds("public and final", type.getModifiers() == (Modifier.PUBLIC | Modifier.FINAL));
        Set<String> methods = new TreeSet<>();
        for (Method method : type.getDeclaredMethods()) {
            if (!Modifier.isPrivate(method.getModifiers()) && !method.isSynthetic()) {
                Checks.holds(method + " is public", method.getModifiers() == Modifier.PUBLIC);
                String parameters = Arrays.toString(method.getParameterTypes()).replace("[", "").replace("]", "");
                methods.add(method.getReturnType() + " " + method.getName() + "(" + parameters.replace(" ", "") + ")");
            }
        }
        Checks.holds("the methods of the face " + methods, methods.equals(new TreeSet<>(Arrays.asList(FACE))));
        Constructor<?>[] constructors = type.getDeclaredConstructors();
        Checks.holds("one constructor", constructors.length == 1 && constructors[0].getParameterCount() == 0
            && constructors[0].getModifiers() == Modifier.PUBLIC);
        for (Field field : type.getDeclaredFields()) {
            boolean isNone = field.getName().equals("NONE");
            int want = Modifier.PUBLIC | Modifier.STATIC | Modifier.FINAL;
            Checks.holds(field + "", isNone ? field.getModifiers() == want : Modifier.isPrivate(field.getModifiers()));
        }
    }

    private static void inside() {
        Class<?>[] classes = CartFellows.class.getDeclaredClasses();
        Checks.holds("some twelve classes", classes.length + 1 <= 12);
        for (Class<?> type : classes) {
            int modifiers = type.getModifiers();
            Checks.holds(type + " is static", Modifier.isStatic(modifiers) || type.isInterface());
            Checks.fails(type + " is seen", Modifier.isPublic(modifiers) || Modifier.isProtected(modifiers));
            int fields = 0;
            for (Field field : type.getDeclaredFields()) {
                boolean isStatic = Modifier.isStatic(field.getModifiers());
                fields += isStatic ? 0 : 1;
                Checks.holds(field + " is no state", !isStatic || Modifier.isFinal(field.getModifiers()));
            }
            Checks.holds(type + " has some twenty fields", fields <= 20);
            for (Method method : type.getDeclaredMethods()) {
                Checks.holds(method + " takes seven", method.getParameterCount() <= 7);
                for (String name : FACE) {
                    Checks.fails(method + " has a name of the face", name.contains(" " + method.getName() + "("));
                }
            }
        }
    }

    private static void source(Path file) throws IOException {
        String text = Files.readString(file);
        String code = text.replaceAll("(?s)/\\*.*?\\*/", "").replaceAll("//[^\n]*", "").replaceAll("\"[^\"\n]*\"", "\"\"");
        for (String word : new String[] {"throw", "throws", "try", "catch", "finally", "synchronized", "assert", "package", "native"}) {
            Checks.fails("the source has " + word, code.matches("(?s).*\\b" + word + "\\b.*"));
        }
        Checks.fails("lambdas or references", code.contains("->") || code.contains("::"));
        Checks.fails("texts joined by +", code.matches("(?s).*\"\\s*\\+.*|.*\\+\\s*\".*"));
        for (int i = 0; i < text.length(); i++) {
            boolean plain = text.charAt(i) == '\n' || text.charAt(i) >= 32 && text.charAt(i) < 127;
            if (!plain) {
                Checks.holds("a plain sign at " + i, false);
            }
        }
        for (String line : text.split("\n")) {
            Checks.holds("an import: " + line, !line.startsWith("import") || line.equals("import java.util.Arrays;"));
        }
    }

    /** All calls of a run live in one room: many objects must fit. */
    private static void room() throws IllegalAccessException {
        Set<Object> seen = Collections.newSetFromMap(new IdentityHashMap<>());
        Deque<Object> open = new ArrayDeque<>();
        open.add(new CartFellows());
        long elements = 0;
        while (!open.isEmpty()) {
            Object object = open.remove();
            if (!seen.add(object)) {
                continue;
            }
            if (object.getClass().isArray()) {
                elements += Array.getLength(object);
                for (int i = 0; object instanceof Object[] && i < Array.getLength(object); i++) {
                    open.add(Array.get(object, i));
                }
                continue;
            }
            for (Field field : object.getClass().getDeclaredFields()) {
                if (!Modifier.isStatic(field.getModifiers())) {
                    elements++;
                    field.setAccessible(true);
                    Object inside = field.get(object);
                    if (inside != null && !field.getType().isPrimitive()) {
                        open.add(inside);
                    }
                }
            }
        }
        System.out.println("an object has " + seen.size() + " objects with " + elements + " fields and elements");
        Checks.holds("512 of them are under 600000 objects", seen.size() * 512L < 600000);
        Checks.holds("512 of them are under 7300000 elements", elements * 512L < 7300000);
    }

    private static int wild(Random random) {
        switch (random.nextInt(12)) {
            case 0: return random.nextInt();
            case 1: return Integer.MIN_VALUE + random.nextInt(3);
            case 2: return Integer.MAX_VALUE - random.nextInt(3);
            case 3: return random.nextInt(1500);
            case 4: return -1 - random.nextInt(2);
            case 5: return random.nextInt(250);
            default: return random.nextInt(13);
        }
    }

    /** What is fed here are pieces of by-laws, so that some texts are read to their end. */
    private static String piece(Random random) {
        String[] pieces = {"kind a most 99;     ", "kind b most 20;     ", "rate yards for all; ", "fine f is 9 for all;",
            "bar 9;load 2;       ", "work 40 rest 9;     ", "rate wait for is a; ", "fine g is wait for  ", "turn=1 or [all];    ",
            "rate (((((((((((((((", "abcdefghijklmnop    ", "shut 0 to 1 from 0  ", "to 700;             "};
        return pieces[random.nextInt(random.nextInt(4) == 0 ? pieces.length : 7)];
    }

    private static int wildCall(CartFellows x, Random random, int which) {
        int a = wild(random);
        int b = wild(random);
        int c = wild(random);
        int d = wild(random);
        int e = wild(random);
        boolean is = random.nextBoolean();
        switch (which) {
            case 0: return x.feed(a, b, c, d, e);
            case 1: return x.end(a) ? 1 : 0;
            case 2: return x.street(a, b, c, d);
            case 3: return random.nextInt(4) == 0 ? x.laws() : x.fault(a);
            case 4: return x.fault(a);
            case 5: return x.name(is, a, b);
            case 6: return x.shut(a, b, c);
            case 7: return x.drive(a, b, c, d);
            case 8: return x.told(a, b, c, d, e, wild(random), wild(random), is);
            case 9: return x.witness(a, is);
            case 10: return x.appeal(a, b);
            case 11: return x.annul(a);
            case 12: return x.as(a) ? 1 : 0;
            case 13: return x.rate(a);
            case 14: return x.fine(a, b);
            case 15: return x.fines(a);
            case 16: return x.barred(a);
            case 17: return x.quarrels();
            case 18: return x.right(a);
            case 19: return x.stand(a);
            case 20: return x.wharf(a, is) ? 1 : 0;
            case 21: return x.cart(a, b);
            case 22: return x.call(a, b, c, d, e);
            case 23: return x.run(is);
            case 24: return x.taken(a, b);
            case 25: return x.cartOf(a, b);
            case 26: return x.day(a);
            case 27: return x.wear(a);
            case 28: return x.part(a, b);
            case 29: return x.gains(a);
            case 30: return x.book();
            case 31: return x.plan(a);
            case 32: return x.planned();
            default: return x.all(a);
        }
    }

    /** No call throws, whatever is asked in whatever state. */
    private static void wildCalls() {
        int thrown = 0;
        for (int seed = 0; seed < 3000; seed++) {
            Random random = new Random(seed);
            CartFellows x = new CartFellows();
            try {
                Checks.tape(x, piece(random) + piece(random) + (seed % 3 == 0 ? piece(random) + piece(random) : ""));
                x.laws();
                for (int i = 0; i < 490; i++) {
                    wildCall(x, random, random.nextInt(34));
                }
            } catch (RuntimeException | StackOverflowError error) {
                thrown++;
                System.out.println("seed " + seed + " threw " + error);
            }
        }
        Checks.due("calls that threw", thrown, 0);
    }

    /** No call makes an object, so that a long run of calls fits the room as well. */
    private static void noObjects() {
        com.sun.management.ThreadMXBean threads = (com.sun.management.ThreadMXBean) ManagementFactory.getThreadMXBean();
        long made = 0;
        for (int round = 0; round < 2; round++) {
            Random random = new Random(5);
            CartFellows x = Checks.with("kind a most 99;rate yards for all;fine f is wait for is a and yards > 3;load 2;");
            x.street(0, 1, 5, 5);
            x.street(1, 2, 7, 9);
            x.stand(0);
            for (int i = 0; i < 20; i++) {
                x.cart(0, 1);
                x.call(i, i % 3, (i + 1) % 3, 0, 9);
            }
            long before = threads.getThreadAllocatedBytes(Thread.currentThread().getId());
            for (int i = 0; i < 400; i++) {
                wildCall(x, random, i % 33 + 1);
            }
            for (int i = 0; i < 20; i++) {
                x.feed(0x62617220, 0x37203b0a, 0x20202020, 0x0a0a0a0a, 0x20202020);
                x.laws();
            }
            made = threads.getThreadAllocatedBytes(Thread.currentThread().getId()) - before;
        }
        Checks.holds("bytes that the calls made: " + made, made < 4000);
    }
}
