/** Counts the answers of one test that are not due, and ways to bring texts to the tape. */
final class Checks {
    private static final int MOST_SHOWN = 50;

    private int made;
    private int wrong;

    void due(String what, Object got, Object want) {
        made++;
        if (!got.equals(want)) {
            wrong++;
        }
        if (!got.equals(want) && wrong <= MOST_SHOWN) {
            System.out.println(what + " answered " + got + ", due is " + want);
        }
    }

    void dueThrown(String what, String want, Runnable call) {
        due(what + " throws", thrownBy(call), want);
    }

    void close() {
        System.out.println(made + " answers, " + wrong + " of them wrong");
        if (made == 0 || wrong != 0) {
            System.exit(1);
        }
    }

    static String thrownBy(Runnable call) {
        try {
            call.run();
            return "nothing";
        } catch (RuntimeException e) {
            return e.getClass().getName().replaceFirst(".*\\.", "");
        }
    }

    /** Leaves just this text (characters 0 .. 255) on the tape; the odd bytes come first, so that 2048 fit. */
    static void put(PatternPairs x, String text) {
        x.end(0);
        int odd = text.length() % 20;
        if (odd > 0) {
            feed(x, text, 0);
            x.end(odd);
        }
        for (int at = odd; at < text.length(); at += 20) {
            feed(x, text, at);
        }
    }

    static int feed(PatternPairs x, String text, int at) {
        return x.feed(word(text, at), word(text, at + 4), word(text, at + 8), word(text, at + 12), word(text, at + 16));
    }

    private static int word(String text, int at) {
        int word = 0;
        for (int i = at; i < at + 4; i++) {
            word = word << 8 | (i < text.length() ? text.charAt(i) & 255 : 0);
        }
        return word;
    }

    static int pattern(PatternPairs x, int which, String text) {
        put(x, text);
        return x.set(which);
    }

    /** What set does with this text, and what place tells then unless it is -1, such as "2 states". */
    static String setting(PatternPairs x, int which, String text) {
        put(x, text);
        int[] states = {0};
        String thrown = thrownBy(() -> states[0] = x.set(which));
        String answer = thrown.equals("nothing") ? states[0] + " states" : thrown;
        return x.place() == -1 ? answer : answer + " at " + x.place();
    }

    static boolean has(PatternPairs x, int which, String text) {
        put(x, text);
        return x.fits(which);
    }

    /** THE TEXT of a kind, read by octet; "none" if there is none. */
    static String text(PatternPairs x, int kind) {
        int length = x.first(kind);
        if (length < 0) {
            return "none";
        }
        StringBuilder text = new StringBuilder();
        for (int i = 0; i < length; i++) {
            text.append((char) x.octet(i));
        }
        return "<" + text + ">";
    }
}
