/** Promise 10, and the places at which promise 4 says that a pattern is broken. */
final class PlaceTest {
    public static void main(String[] args) {
        Checks c = new Checks();
        brokenPlaces(c);
        openAndPlacesAreLimited(c);
        theLatestSetTells(c);
        c.close();
    }

    private static void brokenPlaces(Checks c) {
        Object[][] rows = {
            {"*", 0}, {"+a", 0}, {"?", 0}, {"a|*", 2}, {"(*a)", 1}, {"a(|+)", 3}, {")", 0}, {"a)", 1}, {"(a))", 3},
            {"(", 1}, {"(a", 2}, {"((a)", 4}, {"(a|", 3}, {"a/", 1}, {"/", 0}, {"\\", 1}, {"a\\", 2}, {"\\q", 1}, {"\\a", 1},
            {"\\N", 1}, {"ab\\]\\ ", 5}, {"\\{", 1}, {"\n", 0}, {"a\t", 1}, {"\0", 0}, {"a\177", 1}, {"\200", 0}, {"ab\377", 2},
            {"\\\200", 1}, {"\\\0", 1},
            {"[", 1}, {"[]", 1}, {"[]]", 1}, {"[^", 2}, {"[^]", 2}, {"[^]]", 2}, {"[a", 2}, {"[ab", 3}, {"[a-", 3}, {"[a-]", 3},
            {"[-a]", 1}, {"[^-a]", 2}, {"[a-b-c]", 4}, {"[a--]", 3}, {"[/]", 1}, {"[a/]", 2}, {"[a-/]", 3}, {"[\\", 2}, {"[\\q]", 2},
            {"[a-\\", 4}, {"[a-\\q]", 4}, {"[a\n]", 2}, {"[\0]", 1}, {"[\177]", 1}, {"[a-\177]", 3}, {"[\200]", 1}, {"[\\\377]", 2},
            {"[b-a]", 3}, {"[b-a", 3}, {"[b-a/", 3}, {"[b-\\n]", 3}, {"[\\]-\\[]", 4}, {"[a-cz-y]", 6}, {"[^b-a]", 4}, {"x[~-}]", 4},
            {"[\\r-\\n]", 4}, {"(a[b-a])", 5}, {"([a)", 4}, {"a**|)", 4}, {"()()(", 5}, {"[a]*]]/", 6},
        };
        for (Object[] row : rows) {
            PatternPairs x = new PatternPairs();
            for (int which = 0; which < 2; which++) {
                int w = which;
                c.dueThrown("set to " + row[0], "UnsupportedOperationException", () -> Checks.pattern(x, w, (String) row[0]));
                c.due("place of " + row[0], x.place(), row[1]);
            }
        }
    }

    private static void openAndPlacesAreLimited(Checks c) {
        String full = "a*".repeat(400);
        Object[][] rows = {
            {"(".repeat(40) + ")".repeat(40), -1}, {"(".repeat(41) + ")".repeat(41), 40}, {"(".repeat(60), 40}, {"(".repeat(40), 40},
            {"()".repeat(50), -1}, {"a(".repeat(40) + "))" + "((b" + "(", 85}, {"(".repeat(40) + "|a*" + ")".repeat(41), 83},
            {"a|".repeat(399) + "a", -1}, {"a|".repeat(400) + "a", 800}, {"a|".repeat(400) + ".", 800}, {"a|".repeat(400) + "[a]", 800},
            {"a|".repeat(400) + "[", 800}, {"a|".repeat(400) + "\\n", 800}, {"a|".repeat(400) + "\\", 800}, {"a|".repeat(400) + "()", -1},
            {"a|".repeat(400) + "*", 800}, {"a|".repeat(400), -1}, {"[ab]|".repeat(400) + "a", 2000}, {".|".repeat(400) + "\\a", 800},
            {full + "a", 800}, {full + ")", 800}, {full + "(", 801}, {full + "|(b)", 802}, {"a|".repeat(400) + "/", 800},
        };
        for (Object[] row : rows) {
            PatternPairs x = new PatternPairs();
            String thrown = Checks.thrownBy(() -> Checks.pattern(x, 0, (String) row[0]));
            boolean whole = row[1].equals(-1);
            boolean due = whole ? !thrown.equals("UnsupportedOperationException") : thrown.equals("UnsupportedOperationException");
            c.due("set to " + row[0], due, true);
            c.due("place of " + row[0], x.place(), row[1]);
        }
        PatternPairs x = new PatternPairs();
        c.due("400 places", Checks.pattern(x, 0, "a|".repeat(399) + "a"), 2);
        c.due("40 open", Checks.pattern(x, 0, "(".repeat(40) + "a" + ")".repeat(40)), 2);
        c.dueThrown("2048 bytes", "UnsupportedOperationException", () -> Checks.pattern(x, 0, "a" + "*".repeat(2046) + ")"));
        c.due("the last of 2048 bytes", x.place(), 2047);
        c.due("2048 bytes that stand", Checks.pattern(x, 0, "a" + "*".repeat(2047)), 2);
    }

    private static void theLatestSetTells(Checks c) {
        PatternPairs x = new PatternPairs();
        Checks.thrownBy(() -> Checks.pattern(x, 0, "abc)"));
        c.due("place", x.place(), 3);
        Checks.put(x, "a");
        x.fits(0);
        x.first(0);
        Checks.thrownBy(() -> x.first(9));
        Checks.thrownBy(() -> x.fits(9));
        c.due("place after other calls", x.place(), 3);
        Checks.thrownBy(() -> Checks.pattern(x, 1, "(("));
        c.due("place of the other pattern", x.place(), 2);
        Checks.pattern(x, 0, "a");
        c.due("place after a good one", x.place(), -1);
        Checks.thrownBy(() -> Checks.pattern(x, 0, "/"));
        c.due("place", x.place(), 0);
        Checks.thrownBy(() -> Checks.pattern(x, 0, "a".repeat(200)));
        c.due("place after a limit", x.place(), -1);
        Checks.thrownBy(() -> Checks.pattern(x, 0, "/"));
        Checks.thrownBy(() -> x.set(2));
        c.due("place after a number out of range", x.place(), -1);
    }
}
