/** The LIMITS of promise 4: 200 states of the least automaton, 400 sets of places. */
final class LimitsTest {
    private static final String BEYOND = "IndexOutOfBoundsException";

    public static void main(String[] args) {
        Checks c = new Checks();
        states(c);
        sets(c);
        c.close();
    }

    private static void states(Checks c) {
        whole(c, "a".repeat(199), 200);
        beyond(c, "a".repeat(200));
        whole(c, "(" + "a".repeat(200) + ")*" + "a".repeat(199), 200);
        whole(c, "(" + "a".repeat(199) + ")*", 200);
        beyond(c, "(" + "a".repeat(200) + ")*");
        whole(c, "(" + "a".repeat(199) + ")?", 200);
        beyond(c, "(a|b)*a" + "(a|b)".repeat(7) + "c".repeat(199));
        whole(c, "(a|b)*a" + "(a|b)".repeat(6), 128);
        beyond(c, "(a|b)*a" + "(a|b)".repeat(7));
    }

    private static void sets(Checks c) {
        String twice = "a" + "c".repeat(198) + "|b" + "c".repeat(198);
        whole(c, twice, 200);
        whole(c, twice + "|d", 200);
        beyond(c, twice + "|d|e");
        String chains = "a" + "c".repeat(198) + "|b" + "c".repeat(198);
        whole(c, chains + "|(.|\\n)*", 2);
        beyond(c, chains + "|(.|\\n)");
        beyond(c, "a?".repeat(400));
        beyond(c, "(a|b)*a" + "(a|b)".repeat(11));
        StringBuilder singles = new StringBuilder();
        for (int i = 0; i < 399; i++) {
            singles.append(i == 0 ? "" : "|").append((char) ('a' + i % 20)).append(i < 20 ? "" : "?");
        }
        whole(c, singles.toString(), 2);
    }

    private static void whole(Checks c, String pattern, int states) {
        PatternPairs x = new PatternPairs();
        c.due("states of " + pattern, Checks.thrownBy(() -> Checks.pattern(x, 0, pattern)), "nothing");
        c.due("states of " + pattern, Checks.thrownBy(() -> Checks.pattern(x, 1, pattern)), "nothing");
        if (Checks.thrownBy(() -> Checks.pattern(x, 1, pattern)).equals("nothing")) {
            c.due("states of " + pattern, Checks.pattern(x, 1, pattern), states);
            c.due("both are the same", x.first(0), -1);
        }
    }

    private static void beyond(Checks c, String pattern) {
        PatternPairs x = new PatternPairs();
        Checks.pattern(x, 0, "ab");
        c.dueThrown("set to " + pattern, BEYOND, () -> Checks.pattern(x, 0, pattern));
        c.due("place", x.place(), -1);
        c.due("the old one stays", Checks.has(x, 0, "ab"), true);
        c.due("a next one comes", Checks.pattern(x, 0, "abc"), 4);
    }
}
