import java.io.IOException;
import java.lang.reflect.Method;
import java.nio.file.Files;
import java.nio.file.Path;
import java.util.regex.Matcher;
import java.util.regex.Pattern;

/** Makes the calls of README.md's example, and holds their answers against those that stand behind them. */
public final class ReadmeTests {
    private static final Pattern WRITTEN = Pattern.compile("write\\(fellows, \"([^\"]*)\"\\);");
    private static final Pattern CALL = Pattern.compile("fellows\\.(\\w+)\\(([^)]*)\\); *// (true|false|-?\\d+).*");

    private ReadmeTests() {
    }

    public static void main(String[] args) throws IOException, ReflectiveOperationException {
        String text = Files.readString(Path.of("README.md"));
        String opening = "```java\nCartFellows fellows = new CartFellows();\n";
        int begin = text.indexOf(opening);
        Checks.holds("an example in README.md", begin >= 0);
        if (begin >= 0) {
            int first = begin + opening.length();
            example(text.substring(first, text.indexOf("```", first)).split("\n"));
        }
        Checks.close("ReadmeTests");
    }

    private static void example(String[] lines) throws ReflectiveOperationException {
        CartFellows fellows = new CartFellows();
        for (String line : lines) {
            Matcher written = WRITTEN.matcher(line);
            Matcher call = CALL.matcher(line);
            if (written.matches()) {
                write(fellows, written.group(1));
            } else if (call.matches()) {
                Checks.due(line, number(answer(fellows, call.group(1), call.group(2).split(", "))), number(call.group(3)));
            } else {
                Checks.holds("a line that tells no call and answer: " + line, line.isEmpty());
            }
        }
    }

    private static String answer(CartFellows fellows, String name, String[] values) throws ReflectiveOperationException {
        for (Method method : CartFellows.class.getMethods()) {
            if (method.getName().equals(name)) {
                return String.valueOf(method.invoke(fellows, arguments(method.getParameterTypes(), values)));
            }
        }
        return "there is no such method";
    }

    private static Object[] arguments(Class<?>[] types, String[] values) {
        Object[] arguments = new Object[types.length];
        for (int i = 0; i < types.length; i++) {
            boolean isTruth = types[i] == boolean.class;
            arguments[i] = isTruth ? (Object) Boolean.valueOf(values[i]) : (Object) Integer.valueOf(values[i]);
        }
        return arguments;
    }

    private static long number(String answer) {
        return answer.equals("true") ? 1 : answer.equals("false") ? 0 : Long.parseLong(answer);
    }

    // as README.md tells it

    private static void write(CartFellows fellows, String text) {
        int bytes = fellows.feed(four(text, 0), four(text, 4), four(text, 8), four(text, 12), four(text, 16));
        if (text.length() > 20) {
            write(fellows, text.substring(20));
        } else {
            fellows.end(bytes - 20 + text.length());
        }
    }

    private static int four(String text, int at) {
        int bytes = 0;
        for (int i = at; i < at + 4; i++) {
            bytes = bytes << 8 | (i < text.length() ? text.charAt(i) : 0);
        }
        return bytes;
    }
}
