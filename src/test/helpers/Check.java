/** Counts and prints the answers that are not as due; a test ends with {@link #end}. */
final class Check {
    /** A call that may throw. */
    interface Call {
        long answer();
    }

    private static final int WORD_BYTES = 4;
    private static final int APPEND_BYTES = 20;
    private static int wrong = 0;
    private static int looked = 0;
    private static String sentence = "";

    private Check() {
    }

    /** The document's sentence that the answers from here on are about; it is printed with a wrong one. */
    static void sentence(String words) {
        sentence = "\"" + words + "\": ";
    }

    static void same(String what, long got, long want) {
        same(what, String.valueOf(got), String.valueOf(want));
    }

    static void same(String what, String got, String want) {
        looked++;
        if (!got.equals(want)) {
            wrong++;
            System.out.println(sentence + what + " answered " + got + ", due is " + want);
        }
    }

    static void yes(String what, boolean got) {
        same(what, got ? 1 : 0, 1);
    }

    static void no(String what, boolean got) {
        same(what, got ? 1 : 0, 0);
    }

    static void outside(String what, Call call) {
        same(what, outcome(call), "throws.IndexOutOfBoundsException");
    }

    static void argument(String what, Call call) {
        same(what, outcome(call), "throws.IllegalArgumentException");
    }

    static void state(String what, Call call) {
        same(what, outcome(call), "throws.IllegalStateException");
    }

    /** The answer as a text, or the very class of what was thrown. */
    static String outcome(Call call) {
        try {
            return String.valueOf(call.answer());
        } catch (RuntimeException thrown) {
            return "throws." + thrown.getClass().getSimpleName();
        }
    }

    /** Appends the text, filled up with spaces, and loads just its own bytes. */
    static int load(HomeGateway gateway, String text) {
        append(gateway, text);
        return gateway.load(text.length());
    }

    static void append(HomeGateway gateway, String text) {
        for (int start = 0; start < text.length(); start += APPEND_BYTES) {
            gateway.append(word(text, start, 0), word(text, start, 1), word(text, start, 2),
                    word(text, start, 3), word(text, start, 4));
        }
    }

    static int word(String text, int start, int index) {
        int word = 0;
        for (int i = 0; i < WORD_BYTES; i++) {
            int offset = start + WORD_BYTES * index + i;
            word = word << 8 | (offset < text.length() ? text.charAt(offset) & 255 : ' ');
        }
        return word;
    }

    static HomeGateway loaded(String text) {
        HomeGateway gateway = new HomeGateway();
        int answer = load(gateway, text);
        if (answer < 0) {
            same("load of " + text, answer, 0);
        }
        return gateway;
    }

    static void end() {
        System.out.println(wrong + " of " + looked + " answers are not as due");
        if (wrong != 0 || looked == 0) {
            System.exit(1);
        }
    }
}
