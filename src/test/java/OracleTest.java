import java.util.Random;
import java.util.regex.Pattern;

/** Promises 4 to 9 on patterns made at random, against the Oracle and java.util.regex. */
final class OracleTest {
    private static final String[] ALPHABETS = {"ab", "abc", "a", "ab\n", "^-]a", "/\\|*+?()[.]-^ntr\n\t\r", printable()};

    /** java.util.regex tries one way after the other, and a long pattern has too many. */
    private static final int LONG_FOR_REGEX = 120;

    public static void main(String[] args) {
        Checks c = new Checks();
        Random random = new Random(20261116);
        c.due("small pairs were set", smallPairs(c, random) > 3000, true);
        c.due("big pairs were set", bigPairs(c, random) > 60, true);
        c.close();
    }

    private static int smallPairs(Checks c, Random random) {
        PatternPairs x = new PatternPairs();
        int pairs = 0;
        for (int i = 0; i < 4000; i++) {
            if (i % 4 == 0) {
                x = new PatternPairs();
            }
            String alphabet = ALPHABETS[random.nextInt(ALPHABETS.length)];
            int size = 1 + random.nextInt(14);
            pairs += pairIsSet(c, x, random, alphabet, size) ? 1 : 0;
        }
        return pairs;
    }

    /** Near the limits and beyond them, and with more than 64 kinds of bytes; three pairs on one object. */
    private static int bigPairs(Checks c, Random random) {
        PatternPairs x = new PatternPairs();
        int pairs = 0;
        for (int i = 0; i < 210; i++) {
            if (i % 3 == 0) {
                x = new PatternPairs();
            }
            String alphabet = i % 2 == 0 ? printable() : "abcdefgh".substring(0, 1 + random.nextInt(8));
            pairs += pairIsSet(c, x, random, alphabet, 100 + random.nextInt(250)) ? 1 : 0;
        }
        return pairs;
    }

    private static boolean pairIsSet(Checks c, PatternPairs x, Random random, String alphabet, int size) {
        Oracle a = new Oracle(random, alphabet, size);
        Oracle b = new Oracle(random, alphabet, size);
        boolean both = set(c, x, 0, a) & set(c, x, 1, b);
        if (both) {
            ask(c, x, random, a, b, alphabet);
        }
        return both;
    }

    private static String printable() {
        StringBuilder bytes = new StringBuilder("\n\t\r");
        for (char b = ' '; b <= '~'; b++) {
            bytes.append(b);
        }
        return bytes.toString();
    }

    private static boolean set(Checks c, PatternPairs x, int which, Oracle oracle) {
        int states = oracle.sets() <= 400 ? oracle.states() : 999;
        if (oracle.sets() > 400 || states > 200) {
            c.dueThrown("set " + oracle.pattern(), "IndexOutOfBoundsException", () -> Checks.pattern(x, which, oracle.pattern()));
            return false;
        }
        Checks.put(x, oracle.pattern());
        int got = -1;
        try {
            got = x.set(which);
        } catch (UnsupportedOperationException e) {
            System.out.println(oracle.pattern() + " is broken at " + x.place());
        }
        c.due("states of " + oracle.pattern(), got, states);
        c.due("place of " + oracle.pattern(), x.place(), -1);
        return got >= 0;
    }

    private static void ask(Checks c, PatternPairs x, Random random, Oracle a, Oracle b, String alphabet) {
        Oracle[] oracles = {a, b};
        for (int which = 0; which < 2; which++) {
            String pattern = oracles[which].pattern();
            c.due("empty of " + pattern, x.empty(which), oracles[which].empty());
            int n = random.nextInt(13);
            c.due("count of " + pattern + " " + n, x.count(which, n), oracles[which].count(n));
            Pattern known = Pattern.compile(oracles[which].javaPattern());
            for (int i = 0; i < 4; i++) {
                String text = text(random, alphabet);
                boolean got = Checks.has(x, which, text);
                c.due("fits " + pattern + " <" + text + ">", got, oracles[which].has(text));
                if (pattern.length() < LONG_FOR_REGEX) {
                    c.due("fits " + pattern + " <" + text + ">", got, known.matcher(text).matches());
                }
            }
        }
        for (int kind = 0; kind < 5; kind++) {
            String what = "first " + kind + " of " + a.pattern() + " and " + b.pattern();
            c.due(what, Checks.text(x, kind), Oracle.text(a, b, kind));
        }
    }

    private static String text(Random random, String alphabet) {
        StringBuilder text = new StringBuilder();
        for (int i = random.nextInt(7); i > 0; i--) {
            text.append(random.nextInt(12) == 0 ? (char) random.nextInt(128) : alphabet.charAt(random.nextInt(alphabet.length())));
        }
        return text.toString();
    }
}
