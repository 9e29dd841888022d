/** The sentences of the document's Terms on the LIMITS of a pattern: each that names an edge is quoted above its test. */
final class LimitEdgesTest {
    private static final String BEYOND = "IndexOutOfBoundsException";
    private static final String ANY = "(.|\\n)";

    private final Checks c = new Checks();

    public static void main(String[] args) {
        LimitEdgesTest test = new LimitEdgesTest();
        test.statesOfTheLeastAutomaton();
        test.theLeastOne();
        test.stateWithoutTextsDoesNotCount();
        test.emptyTextHasNone();
        test.sets();
        test.differentSets();
        test.noneIsOneToo();
        test.noneIsNoneWithoutSuchAText();
        test.textsThatAreNotEmpty();
        test.bothLimits();
        test.callsOnTheGreatest();
        test.brokenComesFirst();
        test.limitTellsNoPlace();
        test.c.close();
    }

    /** On an object that has met both limits, and a pattern of many sets, so that nothing of them must stay. */
    private void dueSet(String text, String want) {
        PatternPairs x = new PatternPairs();
        Checks.setting(x, 0, "a?".repeat(400));
        Checks.setting(x, 0, a(200));
        Checks.setting(x, 0, "(a|b)*a" + "(a|b)".repeat(6));
        c.due("set(0) to " + text, Checks.setting(x, 0, text), want);
        c.due("set(1) to " + text, Checks.setting(x, 1, text), want);
    }

    private static String a(int n) {
        return "a".repeat(n);
    }

    /** Two chains, of p and q places; they have p + q sets that are not none, and no two texts of one meet the other's. */
    private static String chains(int p, int q) {
        return "a" + "c".repeat(p - 1) + "|b" + "c".repeat(q - 1);
    }

    /** "200 states of its least automaton" */
    private void statesOfTheLeastAutomaton() {
        for (int states = 197; states <= 203; states++) {
            String want = states <= 200 ? states + " states" : BEYOND;
            dueSet(a(states - 1), want);
            dueSet("(" + a(states - 1) + ")?", want);
            dueSet(a(states - 2) + "b+", want);
            dueSet("(" + a(states - 1) + ")+", want);
            dueSet("b*" + a(states - 1), want);
        }
        dueSet("(" + a(200) + ")*" + a(199), "200 states");
        dueSet("(" + a(201) + ")*" + a(199), BEYOND);
        dueSet(a(399), BEYOND);
        dueSet(a(400), BEYOND);
    }

    /** "its least automaton": states that no text tells apart are one, however many sets they come from. */
    private void theLeastOne() {
        dueSet(chains(199, 199), "200 states");
        dueSet("a" + "c".repeat(99) + "|b" + "d".repeat(99), "200 states");
        dueSet("a" + "c".repeat(99) + "|b" + "d".repeat(100), BEYOND);
        dueSet("(a|b)*a" + "(a|b)".repeat(6), "128 states");
        dueSet("(a|b)*a" + "(a|b)".repeat(7), BEYOND);
        dueSet("(a|b)*(a|b)(a|b)" + "(a|b)".repeat(100), "103 states");
    }

    /** "(a state from which no text has it does not count)" */
    private void stateWithoutTextsDoesNotCount() {
        dueSet("", "0 states");
        dueSet("()", "0 states");
        dueSet("a", "2 states");
        dueSet(ANY, "2 states");
        dueSet(ANY + "+", "2 states");
        dueSet(a(199), "200 states");
        dueSet("(" + ANY.repeat(199) + ")+", "200 states");
    }

    /** Promise 4: "(that which tells texts that have it; the empty text has none here)" */
    private void emptyTextHasNone() {
        dueSet("a*", "2 states");
        dueSet("a+", "2 states");
        dueSet("(ab)*", "3 states");
        dueSet("(ab)*a", "2 states");
        dueSet("((ab)*a)?", "2 states");
        dueSet("(" + a(199) + ")*", "200 states");
        dueSet("(" + a(200) + ")*", BEYOND);
        dueSet("(" + ANY.repeat(199) + ")*", "200 states");
        dueSet("(" + ANY.repeat(200) + ")*", BEYOND);
    }

    /** "400 sets of places: after a text .. those CHARACTERS and CLASSES at which it may have ended" */
    private void sets() {
        dueSet(chains(199, 199), "200 states");
        dueSet(chains(199, 199) + "|d", "200 states");
        dueSet(chains(199, 199) + "|d|e", BEYOND);
        dueSet(chains(198, 198) + "|d|e|f", "199 states");
        dueSet(chains(198, 198) + "|d|e|f|g", BEYOND);
        dueSet("(a|b)*a" + "(a|b)".repeat(11), BEYOND);
    }

    /** "(different sets ..": many texts that end at the same places make one set, and places alone make none. */
    private void differentSets() {
        dueSet("a|".repeat(399) + "a", "2 states");
        dueSet("[ -~]|".repeat(300), "2 states");
        dueSet(chains(199, 199) + "|[d-z]", "200 states");
        dueSet(chains(199, 199) + "|[d-zA-Z]|[d-zA-Z]", "200 states");
        dueSet(chains(199, 199) + "|[d-z]|[e-z]", BEYOND);
    }

    /** "none is one, too, if there is such a text)" */
    private void noneIsOneToo() {
        String bytes = "|[de]|[ef]";
        dueSet(chains(199, 197) + bytes, "200 states");
        dueSet(chains(199, 198) + bytes, BEYOND);
        dueSet(chains(198, 198) + "|d|[^abcd]", "199 states");
        dueSet(chains(199, 199) + "|[^ab]", "200 states");
        dueSet(chains(199, 199) + "|[^abd]|d", BEYOND);
    }

    /** The same, where every text has an end at some place, so that none is no set: there is room for one more. */
    private void noneIsNoneWithoutSuchAText() {
        String all = "|" + ANY + "*";
        dueSet(chains(199, 199) + all, "2 states");
        dueSet(chains(199, 197) + "|[de]|[ef]" + all, BEYOND);
        dueSet(chains(198, 197) + "|[de]|[ef]" + all, "2 states");
        dueSet(chains(199, 199) + "|" + ANY, BEYOND);
    }

    /** "after a text that is not empty": the empty text's own is not among the sets, and none is not if only it is missing. */
    private void textsThatAreNotEmpty() {
        dueSet("((a" + "c".repeat(198) + "|b" + "c".repeat(198) + "|d)?)", "200 states");
        dueSet("(" + ANY + ")*|" + chains(199, 199), "2 states");
        dueSet("(" + ANY + ")+|" + chains(199, 199), "2 states");
    }

    /** One limit holds where the other does not. */
    private void bothLimits() {
        dueSet("(" + ANY.repeat(200) + ")*", BEYOND);
        dueSet(a(200), BEYOND);
        dueSet("a?".repeat(199), "200 states");
        dueSet("a?".repeat(200), BEYOND);
        dueSet("a?".repeat(398) + "a*", "2 states");
        dueSet("a?".repeat(399) + "a*", BEYOND);
    }

    /** Every call answers on two patterns of 200 states, too. */
    private void callsOnTheGreatest() {
        PatternPairs x = new PatternPairs();
        c.due("set 0", Checks.setting(x, 0, "a?".repeat(199)), "200 states");
        c.due("set 1", Checks.setting(x, 1, "(" + a(199) + ")*"), "200 states");
        for (int n = 0; n <= 12; n++) {
            c.due("count 0 of " + n, x.count(0, n), 1L);
            c.due("count 1 of " + n, x.count(1, n), n == 0 ? 1L : 0L);
        }
        c.due("empty", x.empty(0) && x.empty(1), true);
        c.due("199 bytes", Checks.has(x, 0, a(199)) && Checks.has(x, 1, a(199)), true);
        c.due("200 bytes", Checks.has(x, 0, a(200)) || Checks.has(x, 1, a(200)), false);
        c.due("1990 bytes", Checks.has(x, 1, a(1990)), true);
        c.due("0 and not 1", Checks.text(x, 1), "<a>");
        c.due("1 and not 0", x.first(2), 398);
        c.due("both", x.first(3), 0);
        c.due("neither", Checks.text(x, 4), "<\0>");
    }

    /** Promise 4: "Broken: UnsupportedOperationException, PLACE is told; a LIMIT: IndexOutOfBoundsException." */
    private void brokenComesFirst() {
        dueSet(a(200) + ")", "UnsupportedOperationException at 200");
        dueSet(a(401), "UnsupportedOperationException at 400");
        dueSet("(a|b)*a" + "(a|b)".repeat(11) + "(", "UnsupportedOperationException at 63");
    }

    /** Promise 10: "-1 if it told none"; and what was set stays. */
    private void limitTellsNoPlace() {
        PatternPairs x = new PatternPairs();
        Checks.pattern(x, 0, "ab");
        c.due("set to a broken one", Checks.setting(x, 0, "ab)"), "UnsupportedOperationException at 2");
        c.due("set to one beyond", Checks.setting(x, 0, a(200)), BEYOND);
        c.due("place", x.place(), -1);
        c.due("ab has it", Checks.has(x, 0, "ab"), true);
        c.due("set to the next", Checks.setting(x, 0, a(199)), "200 states");
        c.due("ab has it no more", Checks.has(x, 0, "ab"), false);
        c.due("199 bytes have it", Checks.has(x, 0, a(199)), true);
    }
}
