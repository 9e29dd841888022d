/** Promises 5 to 9: empty, fits, first, octet and count. */
final class TextsTest {
    private static final int[] NO_PATTERNS = {-1, 2, 3, Integer.MIN_VALUE, Integer.MAX_VALUE};

    public static void main(String[] args) {
        Checks c = new Checks();
        empty(c);
        fits(c);
        first(c);
        firstComesBackToTheStart(c);
        firstMayBeLong(c);
        octet(c);
        count(c);
        c.close();
    }

    private static void empty(Checks c) {
        Object[][] rows = {
            {"", true}, {"a", false}, {"a*", true}, {"a+", false}, {"a?", true}, {"()", true}, {"(a|)", true}, {"a|b", false},
            {"a*b*", true}, {"a*b", false}, {"(a+)?", true}, {"(a?)+", true}, {"(a*|b)c?", true}, {"[^a]", false}, {"|a", true},
        };
        for (Object[] row : rows) {
            PatternPairs x = new PatternPairs();
            Checks.pattern(x, 0, (String) row[0]);
            Checks.pattern(x, 1, (Boolean) row[1] ? "z" : "z?");
            Checks.feed(x, "zz", 0);
            c.due("empty of " + row[0], x.empty(0), row[1]);
            c.due("empty of the other", x.empty(1), !(Boolean) row[1]);
            c.due("the tape stays", x.end(20), 20);
        }
        for (int which : NO_PATTERNS) {
            PatternPairs x = new PatternPairs();
            Checks.feed(x, "zz", 0);
            c.dueThrown("empty " + which, "IllegalArgumentException", () -> x.empty(which));
            c.due("the tape stays", x.end(20), 20);
        }
    }

    private static void fits(Checks c) {
        PatternPairs x = new PatternPairs();
        Checks.pattern(x, 0, "a*b");
        Checks.pattern(x, 1, "a*");
        c.due("fits 0", Checks.has(x, 0, "aab"), true);
        c.due("the tape is empty", x.feed(0, 0, 0, 0, 0), 20);
        c.due("fits 1", Checks.has(x, 1, "aab"), false);
        c.due("fits 1 the empty tape left", x.fits(1), true);
        c.due("fits 0 the empty tape", x.fits(0), false);
        c.due("a long text", Checks.has(x, 0, "a".repeat(2047) + "b"), true);
        c.due("a long text that has not", Checks.has(x, 0, "a".repeat(2046) + "ba"), false);
        Checks.pattern(x, 0, "[^b]*");
        c.due("byte 127", Checks.has(x, 0, "\177\0"), true);
        c.due("byte 128", Checks.has(x, 0, "\200"), false);
        c.due("byte 128 inside", Checks.has(x, 0, "a\200a"), false);
        c.due("byte 255", Checks.has(x, 0, "a\377"), false);
        c.due("byte 225, a with the highest bit", Checks.has(x, 1, "\341"), false);
        for (int which : NO_PATTERNS) {
            Checks.put(x, "aa");
            c.dueThrown("fits " + which, "IllegalArgumentException", () -> x.fits(which));
            c.due("the tape is empty all the same", x.feed(0, 0, 0, 0, 0), 20);
        }
    }

    /** Each row: the two patterns and THE TEXT of each kind. */
    private static void first(Checks c) {
        String[][] rows = {
            {"a*", "a+", "<>", "<>", "none", "<a>", "<\0>"}, {"a", "b", "<a>", "<a>", "<b>", "none", "<>"},
            {"b", "a", "<a>", "<b>", "<a>", "none", "<>"}, {"(ab)*a", "a(ba)*", "none", "none", "none", "<a>", "<>"},
            {"abc|b", "abc", "<b>", "<b>", "none", "<abc>", "<>"}, {"a|bb", "b|aa", "<a>", "<a>", "<b>", "none", "<>"},
            {"(.|\\n)*", "", "<\0>", "<\0>", "none", "<>", "none"}, {"(.|\\n)*", ".*", "<\n>", "<\n>", "none", "<>", "none"},
            {"", "(.|\\n)*", "<\0>", "none", "<\0>", "<>", "none"}, {"(.|\\n)+", "[^a]*", "<>", "<a>", "<>", "<\0>", "none"},
            {"zz|zy|yz", "x?", "<>", "<yz>", "<>", "none", "<\0>"}, {"b|ab", "c|ab", "<b>", "<b>", "<c>", "<ab>", "<>"},
            {"(a|b)*", "(a|b)*b|", "<a>", "<a>", "none", "<>", "<\0>"}, {"(.|\\n)?", "(.|\\n)?", "none", "none", "none", "<>", "<\0\0>"},
            {"[\\n-\\r]x", "\\tx|\\nx|\\ry", "<\tx>", "<\13x>", "<\tx>", "<\nx>", "<>"},
            {"ba|ab|c+", "c*", "<>", "<ab>", "<>", "<c>", "<\0>"}, {"[^a-z]*", "[^A-Z]*", "<A>", "<a>".replace('a', 'A'), "<a>", "<>", "<Aa>"},
        };
        for (String[] row : rows) {
            PatternPairs x = new PatternPairs();
            Checks.pattern(x, 0, row[0]);
            Checks.pattern(x, 1, row[1]);
            for (int kind = 0; kind < 5; kind++) {
                c.due("first " + kind + " of " + row[0] + " and " + row[1], Checks.text(x, kind), row[2 + kind]);
            }
        }
        PatternPairs x = new PatternPairs();
        Checks.pattern(x, 0, "ab");
        x.first(1);
        for (int kind : new int[] {-1, 5, Integer.MAX_VALUE, Integer.MIN_VALUE}) {
            c.dueThrown("first " + kind, "IllegalArgumentException", () -> x.first(kind));
            c.due("THE TEXT stays", x.octet(1), (int) 'b');
        }
        Checks.feed(x, "ab", 0);
        x.first(1);
        c.due("the tape stays", x.end(20), 20);
    }

    private static void firstComesBackToTheStart(Checks c) {
        String any = "(.|\\n)";
        PatternPairs x = new PatternPairs();
        for (int which = 0; which < 2; which++) {
            c.due("states", Checks.pattern(x, which, "(" + any + "(" + any + any + ")*)?"), 2);
        }
        c.due("neither", Checks.text(x, 4), "<\0\0>");
    }

    private static void firstMayBeLong(Checks c) {
        PatternPairs x = new PatternPairs();
        Checks.pattern(x, 0, "(" + "a".repeat(199) + ")+");
        Checks.pattern(x, 1, "a".repeat(197) + "(" + "a".repeat(198) + ")*");
        c.due("both", x.first(3), 199 * 197);
        c.due("its first byte", x.octet(0), (int) 'a');
        c.due("its last byte", x.octet(199 * 197 - 1), (int) 'a');
        c.dueThrown("behind it", "NoSuchElementException", () -> x.octet(199 * 197));
        c.due("just one", x.first(0), 197);
        c.dueThrown("behind it", "NoSuchElementException", () -> x.octet(197));
        c.due("both again", x.first(3), 199 * 197);
    }

    private static void octet(Checks c) {
        PatternPairs x = new PatternPairs();
        Checks.pattern(x, 0, "\\n~[^ -~\\t\\n\\r]");
        c.due("first", x.first(1), 3);
        c.due("octet 0", x.octet(0), 10);
        c.due("octet 1", x.octet(1), 126);
        c.due("octet 2", x.octet(2), 0);
        for (int i : new int[] {-1, 3, 4, Integer.MAX_VALUE, Integer.MIN_VALUE}) {
            c.dueThrown("octet " + i, "NoSuchElementException", () -> x.octet(i));
        }
        Checks.pattern(x, 0, "b");
        Checks.pattern(x, 1, "b");
        c.due("THE TEXT stays when patterns change", x.octet(1), 126);
        c.due("first of none", x.first(0), -1);
        c.dueThrown("octet of none", "NoSuchElementException", () -> x.octet(0));
        x.first(3);
        c.due("octet", x.octet(0), (int) 'b');
        x.first(4);
        c.dueThrown("octet of the empty text", "NoSuchElementException", () -> x.octet(0));
        Checks.pattern(x, 0, "[^ -~\\t\\n\\r]|\\n");
        Checks.pattern(x, 1, "[ -~\\t\\r]|[^ -~\\t\\n\\r]|\\n".replace("|[^ -~\\t\\n\\r]", ""));
        x.first(1);
        c.due("octet", x.octet(0), 0);
    }

    private static void count(Checks c) {
        PatternPairs x = new PatternPairs();
        Checks.pattern(x, 0, "(.|\\n)*");
        Checks.pattern(x, 1, "(a|b)*a(a|b)");
        for (int n = 0; n <= 12; n++) {
            c.due("count of all, " + n, x.count(0, n), n <= 8 ? 1L << 7 * n : n == 9 ? 1L << 63 : 0L);
            c.due("count, " + n, x.count(1, n), n < 2 ? 0L : 1L << n - 1);
        }
        Checks.pattern(x, 0, ".*");
        long dots = 1;
        for (int n = 0; n <= 12; n++) {
            c.due("count of dots, " + n, x.count(0, n), dots);
            dots *= 127;
        }
        Checks.pattern(x, 0, "[a-c]?[^a]?");
        c.due("each text once, 0", x.count(0, 0), 1L);
        c.due("each text once, 1", x.count(0, 1), 128L);
        c.due("each text once, 2", x.count(0, 2), 3L * 127);
        c.due("each text once, 3", x.count(0, 3), 0L);
        for (int which : NO_PATTERNS) {
            c.dueThrown("count " + which, "IllegalArgumentException", () -> x.count(which, 1));
        }
        for (int n : new int[] {-1, 13, Integer.MAX_VALUE, Integer.MIN_VALUE}) {
            c.dueThrown("count of " + n, "IllegalArgumentException", () -> x.count(0, n));
            c.dueThrown("count of " + n, "IllegalArgumentException", () -> x.count(1, n));
        }
        Checks.feed(x, "ab", 0);
        x.count(0, 1);
        c.due("the tape stays", x.end(20), 20);
    }
}
