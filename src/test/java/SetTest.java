/** Promise 4: set, which patterns there are, what they mean and how many states they have. */
final class SetTest {
    public static void main(String[] args) {
        Checks c = new Checks();
        statesOfTheLeastAutomaton(c);
        charactersAndClasses(c);
        repeatsAndChoices(c);
        whatIsThrown(c);
        whatIsThrownChangesNothingElse(c);
        c.close();
    }

    private static void statesOfTheLeastAutomaton(Checks c) {
        Object[][] rows = {
            {"", 0}, {"()", 0}, {"|", 0}, {"(()|)*+?", 0},
            {"a", 2}, {"a?", 2}, {"a*", 2}, {"a+", 2}, {"a|b", 2}, {"ab|cb", 3}, {"abc", 4}, {"ab?c", 4},
            {"(ab)*", 3}, {"(ab)+", 3}, {"(ab)*a", 2}, {"a(ba)*", 2}, {"(a|b)*", 2}, {"(a*b*)*", 2},
            {"(a|b)*a(a|b)", 4}, {"(a|b)*abb", 4}, {"(aa)*", 3}, {"(aa)*|a", 4}, {"((aa)*a)?", 2},
            {".", 2}, {"[^a]|a", 2}, {"(.|\\n)*", 2}, {"aa|ab|ba|bb", 3}, {"a*b*c*", 4}, {"(a?b?c?)?", 4},
        };
        for (Object[] row : rows) {
            for (int which = 0; which < 2; which++) {
                c.due("states of " + row[0], Checks.pattern(new PatternPairs(), which, (String) row[0]), row[1]);
            }
        }
    }

    /** Each row: a pattern of one byte, and all bytes that have it. */
    private static void charactersAndClasses(Checks c) {
        StringBuilder all = new StringBuilder();
        for (char b = 0; b < 128; b++) {
            all.append(b);
        }
        String every = all.toString();
        String[][] rows = {
            {".", every.replace("\n", "")}, {"\\.", "."}, {"\\/", "/"}, {"\\\\", "\\"}, {"\\|", "|"}, {"\\*", "*"},
            {"\\+", "+"}, {"\\?", "?"}, {"\\(", "("}, {"\\)", ")"}, {"\\[", "["}, {"\\]", "]"}, {"\\-", "-"},
            {"\\^", "^"}, {"\\n", "\n"}, {"\\t", "\t"}, {"\\r", "\r"}, {"n", "n"}, {"]", "]"}, {"-", "-"},
            {"^", "^"}, {"{", "{"}, {"}", "}"}, {"$", "$"}, {" ", " "}, {"~", "~"}, {",", ","}, {"\"", "\""},
            {"[a]", "a"}, {"[ab]", "ab"}, {"[a-c]", "abc"}, {"[a-a]", "a"}, {"[a-cx-z]", "abcxyz"},
            {"[^a]", every.replace("a", "")}, {"[^^]", every.replace("^", "")}, {"[a^]", "^a"}, {"[\\^a]", "^a"},
            {"[.]", "."}, {"[|*+?()[.]", "()*+.?[|"}, {"[$-.]", "$%&'()*+,-."}, {"[\\]]", "]"}, {"[\\-]", "-"},
            {"[+-\\-]", "+,-"}, {"[\\--\\/]", "-./"}, {"[\\n-\\r]", "\n\13\f\r"}, {"[\\t-\\r]", "\t\n\13\f\r"},
            {"[\\t-\\t]", "\t"}, {"[^ -~]", every.replaceAll("[ -~]", "")}, {"[^\\n]", every.replace("\n", "")},
            {"[nrt\\n\\r\\t]", "\t\n\rnrt"}, {"[ -~]", every.replaceAll("[^ -~]", "")}, {"[^.-\\/]", every.replaceAll("[./]", "")},
            {"[a-cb-d]", "abcd"}, {"[aa]", "a"}, {"[^a-z\\n]", every.replaceAll("[a-z\n]", "")},
        };
        for (String[] row : rows) {
            PatternPairs x = new PatternPairs();
            Checks.pattern(x, 1, row[0]);
            c.due("count of " + row[0], x.count(1, 1), (long) row[1].length());
            for (char b = 0; b < 128; b++) {
                x.feed(b << 24, 0, 0, 0, 0);
                x.end(1);
                c.due("fits " + row[0] + " byte " + (int) b, x.fits(1), row[1].indexOf(b) >= 0);
            }
        }
    }

    private static void repeatsAndChoices(Checks c) {
        String[][] rows = {
            {"ab*", "a,ab,abb", ",b,aba"}, {"ab+", "ab,abb", ",a,b,abab"}, {"ab?", "a,ab", ",abb,b"},
            {"(ab)?c", "c,abc", "ac,bc,,ababc"}, {"a+?", ",a,aa", "b"}, {"a?+", ",a,aa", "b"}, {"a**", ",a,aa", "b"},
            {"(a|bc)*d", "d,ad,bcd,abcabcd", "bd,cd,,abc"}, {"a|", ",a", "aa,|"}, {"|a", ",a", "aa"}, {"a||b", ",a,b", "ab"},
            {"()a()", "a", ",aa"}, {"(|a)(|b)", ",a,b,ab", "ba,aa"}, {"(a*|b)*c", "c,abac,bc", ",a,cb"},
            {"ab|cd", "ab,cd", "abd,acd,abcd,a,"}, {"a(b|c)d", "abd,acd", "ad,abcd"}, {"((a)(b))c", "abc", "ab,c"},
        };
        for (String[] row : rows) {
            PatternPairs x = new PatternPairs();
            Checks.pattern(x, 0, row[0]);
            for (String text : row[1].split(",", -1)) {
                c.due("fits " + row[0] + " <" + text + ">", Checks.has(x, 0, text), true);
            }
            for (String text : row[2].split(",", -1)) {
                c.due("fits " + row[0] + " <" + text + ">", Checks.has(x, 0, text), false);
            }
        }
    }

    private static void whatIsThrown(Checks c) {
        for (int which : new int[] {-1, 2, Integer.MAX_VALUE, Integer.MIN_VALUE}) {
            PatternPairs x = new PatternPairs();
            c.dueThrown("set " + which, "IllegalArgumentException", () -> x.set(which));
            c.dueThrown("set " + which + " broken", "IllegalArgumentException", () -> Checks.pattern(x, which, "("));
        }
        PatternPairs x = new PatternPairs();
        c.dueThrown("broken", "UnsupportedOperationException", () -> Checks.pattern(x, 0, "a)"));
        c.dueThrown("beyond a limit", "IndexOutOfBoundsException", () -> Checks.pattern(x, 0, "a".repeat(200)));
        c.dueThrown("broken behind a limit", "UnsupportedOperationException",
            () -> Checks.pattern(x, 0, "a".repeat(200) + ")"));
    }

    private static void whatIsThrownChangesNothingElse(Checks c) {
        String[] wrong = {"*", "(a", "[b-a]", "b".repeat(200)};
        for (String text : wrong) {
            for (int which : new int[] {0, 1, 2}) {
                PatternPairs x = new PatternPairs();
                Checks.pattern(x, 0, "ab*");
                Checks.pattern(x, 1, "b|ab");
                x.first(3);
                Checks.thrownBy(() -> Checks.pattern(x, which, text));
                c.due("the tape is empty after " + text, x.feed(0, 0, 0, 0, 0), 20);
                c.due("octet stays", x.octet(1), (int) 'b');
                c.due("pattern 0 stays", Checks.has(x, 0, "abb"), true);
                c.due("pattern 1 stays", Checks.has(x, 1, "ab"), true);
                c.due("first stays", Checks.text(x, 1), "<a>");
                c.due("count stays", x.count(1, 1), 1L);
            }
        }
        PatternPairs x = new PatternPairs();
        Checks.pattern(x, 0, "a");
        c.due("the tape is empty after set", x.feed(0, 0, 0, 0, 0), 20);
        x.end(0);
        c.due("the empty tape is a pattern", x.set(0), 0);
        c.due("which the empty text has", x.empty(0), true);
    }
}
