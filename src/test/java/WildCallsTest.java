import java.util.Random;

/** Any calls in any order: none throws what the document does not name, and all of them end. */
final class WildCallsTest {
    private static final String[] PIECES = {
        "a", "b", "(", ")", "|", "*", "+", "?", "[a-z]", "[^a]", ".", "\\n", "(a|b)", "(a?b)*", "((a", "))", "abcabc",
        "(a|b)*a", "a?a?a?", "[ -~]", "\377", "\0", "/", "[", "]", "-", "^", "\\",
    };
    private static final int[] EDGES = {-1, 0, 1, 2, 3, 4, 5, 11, 12, 13, 20, 2047, 2048, Integer.MIN_VALUE, Integer.MAX_VALUE};

    /** A round makes some four calls, so that an object has not more than its 512. */
    private static final int ROUNDS = 100;

    public static void main(String[] args) {
        Checks c = new Checks();
        Random random = new Random(7);
        for (int run = 0; run < 1500; run++) {
            PatternPairs x = new PatternPairs();
            for (int call = 0; call < ROUNDS; call++) {
                wildCall(c, x, random);
            }
        }
        c.close();
    }

    private static void wildCall(Checks c, PatternPairs x, Random random) {
        int n = random.nextInt(4) > 0 ? random.nextInt(2) : EDGES[random.nextInt(EDGES.length)];
        int m = random.nextInt(4) > 0 ? random.nextInt(13) : EDGES[random.nextInt(EDGES.length)];
        switch (random.nextInt(9)) {
            case 0:
                allowed(c, "IndexOutOfBoundsException", () -> x.feed(random.nextInt(), n, m, random.nextInt(), 7));
                break;
            case 1:
                allowed(c, "IllegalArgumentException", () -> x.end(m));
                break;
            case 2:
            case 3:
                allowed(c, "IllegalArgumentException UnsupportedOperationException IndexOutOfBoundsException",
                    () -> wildSet(x, random, n));
                break;
            case 4:
                allowed(c, "IllegalArgumentException", () -> x.empty(n));
                break;
            case 5:
                allowed(c, "IllegalArgumentException", () -> x.fits(n));
                break;
            case 6:
                allowed(c, "IllegalArgumentException", () -> x.first(m % 8));
                break;
            case 7:
                allowed(c, "NoSuchElementException", () -> x.octet(m));
                break;
            default:
                allowed(c, "IllegalArgumentException", () -> x.count(n, m));
                break;
        }
        c.due("place is in range", x.place() >= -1 && x.place() <= 2048, true);
    }

    private static void wildSet(PatternPairs x, Random random, int which) {
        StringBuilder text = new StringBuilder();
        int few = random.nextInt(3) == 0 ? 60 : 12;
        int kinds = random.nextBoolean() ? PIECES.length : 20;
        for (int i = random.nextInt(few); i > 0; i--) {
            text.append(PIECES[random.nextInt(kinds)]);
        }
        Checks.pattern(x, which, text.toString());
    }

    private static void allowed(Checks c, String names, Runnable call) {
        String thrown = Checks.thrownBy(call);
        boolean fine = thrown.equals("nothing") || names.contains(thrown) && !thrown.contains("Array");
        c.due("a call that threw " + thrown + " where " + names + " may be", fine, true);
    }
}
