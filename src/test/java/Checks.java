/** What the tests share: counting wrong answers, and feeding texts. */
final class Checks {
    private static int wrong = 0;
    private static int asked = 0;
    private static String sentence = "";
    private static int sentences = 0;
    private static int askedBefore = 0;

    private Checks() {
    }

    /** From here on answers are due by a sentence of the document, told with each that is wrong. */
    static void by(String words) {
        endSentence();
        sentence = "[" + words + "] ";
        sentences++;
    }

    private static void endSentence() {
        if (sentences > 0 && asked == askedBefore) {
            wrong++;
            System.out.println(sentence + "has no answer of its own");
        }
        askedBefore = asked;
    }

    static void due(String what, long got, long want) {
        asked++;
        if (got != want) {
            wrong++;
            System.out.println(sentence + what + " answered " + got + ", due is " + want);
        }
    }

    static void holds(String what, boolean got) {
        due(what, got ? 1 : 0, 1);
    }

    static void fails(String what, boolean got) {
        due(what, got ? 1 : 0, 0);
    }

    /** Puts a text (characters 0 to 255) on the tape, in place of what is there. */
    static void tape(CartFellows x, String text) {
        x.end(0);
        for (int i = 0; i < text.length(); i += 20) {
            x.feed(four(text, i), four(text, i + 4), four(text, i + 8), four(text, i + 12), four(text, i + 16));
        }
        holds("end of " + text, x.end(text.length()));
    }

    private static int four(String text, int at) {
        int bytes = 0;
        for (int i = at; i < at + 4; i++) {
            bytes = bytes << 8 | (i < text.length() ? text.charAt(i) & 255 : ' ');
        }
        return bytes;
    }

    /** Reads a text as by-laws. */
    static int laws(CartFellows x, String text) {
        tape(x, text);
        return x.laws();
    }

    /** A new object with by-laws. */
    static CartFellows with(String text) {
        CartFellows x = new CartFellows();
        holds("laws of " + text, laws(x, text) >= 0);
        return x;
    }

    static void close(String tests) {
        endSentence();
        String told = sentences > 0 ? sentences + " sentences, " : "";
        System.out.println(tests + ": " + told + asked + " answers, " + wrong + " wrong");
        if (wrong != 0 || asked == 0) {
            System.exit(1);
        }
    }
}
