import java.math.BigInteger;

/** The sentences of the document on the calls: each that names an edge or a refused call is quoted above its test. */
final class CallEdgesTest {
    private static final String REFUSED = "IllegalArgumentException";
    private static final String BROKEN = "UnsupportedOperationException at ";
    private static final String BEYOND = "IndexOutOfBoundsException";
    private static final String NO_BYTE = "NoSuchElementException";
    private static final String ANY = "(.|\\n)";
    private static final int[] NO_PATTERNS = {-1, 2, 3, 256, -256, Integer.MIN_VALUE, Integer.MAX_VALUE};

    private final Checks c = new Checks();

    public static void main(String[] args) {
        CallEdgesTest test = new CallEdgesTest();
        test.calls512();
        test.tapeIsFull();
        test.readingEmptiesTheTape();
        test.otherCallsKeepTheTape();
        test.patternsAtFirst();
        test.textsOfBytes();
        test.firstText();
        test.orderOfWhatIsThrown();
        test.whatThrowsChangesNothing();
        test.whatThrowsAndReadsChangesTheTapeAlone();
        test.feedBringsBytes();
        test.feedBeyond();
        test.endKeeps();
        test.setWhich();
        test.emptyText();
        test.fitsTape();
        test.firstKinds();
        test.firstOfNone();
        test.octetOfTheText();
        test.countLengths();
        test.countWraps();
        test.placeOfTheLatest();
        test.c.close();
    }

    private static PatternPairs pair(String pattern0, String pattern1) {
        PatternPairs x = new PatternPairs();
        Checks.pattern(x, 0, pattern0);
        Checks.pattern(x, 1, pattern1);
        return x;
    }

    private void dueLength(String what, PatternPairs x, int length) {
        c.dueThrown(what + ", end beyond the tape's length", REFUSED, () -> x.end(length + 1));
        c.dueThrown(what + ", end at the tape's length", "nothing", () -> x.end(length));
    }

    /** "An object is used for at most 512 calls after it has been made" */
    private void calls512() {
        PatternPairs x = new PatternPairs();
        for (int i = 0; i < 127; i++) {
            c.due("feed a*b+", x.feed(0x612a622b, 0, 0, 0, 0), 20);
            c.due("end", x.end(2 + i % 2 * 2), 2 + i % 2 * 2);
            c.due("set to a* or a*b+", x.set(i % 2), 2);
            c.due("first of both", x.first(3), i == 0 ? 0 : -1);
        }
        c.due("call 509", x.empty(0), true);
        c.due("call 510", x.count(1, 12), 12L);
        c.due("call 511", x.fits(1), false);
        c.due("call 512", x.place(), -1);
    }

    /** "THE TAPE has at most 2048 bytes." */
    private void tapeIsFull() {
        PatternPairs x = pair("a*", "a*b");
        c.due("2048 bytes", Checks.has(x, 0, "a".repeat(2048)), true);
        c.due("2048 bytes, the last another", Checks.has(x, 1, "a".repeat(2047) + "b"), true);
        Checks.put(x, "a".repeat(2048));
        c.dueThrown("feed", BEYOND, () -> x.feed(0, 0, 0, 0, 0));
        c.dueThrown("end", REFUSED, () -> x.end(2049));
        c.due("the full tape stays", x.end(2048), 2048);
        c.due("its bytes stay", x.fits(0), true);
        PatternPairs y = new PatternPairs();
        c.due("2048 bytes of a pattern", Checks.setting(y, 0, "a" + "+".repeat(2047)), "2 states");
        c.due("2048 bytes, the last broken", Checks.setting(y, 0, "a" + "+".repeat(2046) + "/"), BROKEN + 2047);
        c.due("2048 bytes, the end missing", Checks.setting(y, 0, "(" + "|".repeat(2047)), BROKEN + 2048);
    }

    /** "A call that reads THE TAPE leaves it empty, also if it throws." */
    private void readingEmptiesTheTape() {
        String[] texts = {"a", "ab", "(", "*", "a\377", "a".repeat(200), "a".repeat(2048), ""};
        for (String text : texts) {
            for (int which : new int[] {0, 1, 2, -1}) {
                PatternPairs x = pair("a", "ab");
                Checks.setting(x, which, text);
                dueLength("after set(" + which + ") to " + text, x, 0);
                Checks.put(x, text);
                Checks.thrownBy(() -> x.fits(which));
                dueLength("after fits(" + which + ") of " + text, x, 0);
                c.due("feed starts again", x.feed(0, 0, 0, 0, 0), 20);
            }
        }
    }

    /** The same sentence: a call that does not read THE TAPE leaves it as it is. */
    private void otherCallsKeepTheTape() {
        PatternPairs x = pair("ab*", "ab|c");
        Checks.put(x, "abb");
        for (int n : new int[] {-1, 0, 1, 2, 3, 4, 5, 13}) {
            Checks.thrownBy(() -> x.empty(n));
            Checks.thrownBy(() -> x.first(n));
            Checks.thrownBy(() -> x.octet(n));
            Checks.thrownBy(() -> x.count(0, n));
            Checks.thrownBy(() -> x.count(n, 1));
            x.place();
        }
        dueLength("after calls that do not read", x, 3);
        c.due("its bytes stay", x.fits(0), true);
    }

    /** "PATTERNS 0 and 1: at first the empty one." */
    private void patternsAtFirst() {
        for (int which = 0; which < 2; which++) {
            PatternPairs x = new PatternPairs();
            c.due("empty", x.empty(which), true);
            c.due("the empty tape has it", x.fits(which), true);
            c.due("byte 0 has it", Checks.has(x, which, "\0"), false);
            c.due("texts of no bytes", x.count(which, 0), 1L);
            c.due("texts of a byte", x.count(which, 1), 0L);
            c.due("texts of 12 bytes", x.count(which, 12), 0L);
            c.due("set to the empty tape", Checks.setting(x, which, ""), "0 states");
            c.due("it is the other one", x.first(0), -1);
        }
    }

    /** "Texts are of bytes 0 .. 127." */
    private void textsOfBytes() {
        PatternPairs x = pair(ANY + "*", "[^a]*");
        c.due("byte 0", Checks.has(x, 0, "a\0"), true);
        c.due("byte 127", Checks.has(x, 0, "a\177"), true);
        for (int b = 128; b < 256; b++) {
            PatternPairs y = pair(ANY + "*", "[^a]*");
            c.due("byte " + b, Checks.has(y, 0, String.valueOf((char) b)), false);
            c.due("byte " + b + " of all others", Checks.has(y, 1, String.valueOf((char) b)), false);
            c.due("byte " + b + " in front", Checks.has(y, 0, (char) b + "a"), false);
        }
        c.due("texts of a byte", x.count(0, 1), 128L);
        c.due("no text has neither", x.first(4), -1);
    }

    /** "The FIRST text of some: the shortest one, of these the one with the least bytes, from the front." */
    private void firstText() {
        c.due("the shortest before the least", Checks.text(pair("b|aa", ""), 1), "<b>");
        c.due("the shortest is the empty one", Checks.text(pair("a?", "a"), 1), "<>");
        c.due("the least", Checks.text(pair("c|b|d", ""), 1), "<b>");
        c.due("the least from the front", Checks.text(pair("ba|az", ""), 1), "<az>");
        c.due("the least behind the front", Checks.text(pair("az|ay|bx", ""), 1), "<ay>");
        c.due("the least byte there is", Checks.text(pair(ANY.repeat(3), ""), 1), "<\0\0\0>");
        c.due("the greatest byte that is told", Checks.text(pair("~~", ""), 1), "<~~>");
        c.due("9 before 10 before 13", Checks.text(pair("\\r|\\n|\\t", "\\t"), 1), "<\n>");
    }

    /** "What is thrown, in this order: IllegalArgumentException: a number out of range; then as the call says." */
    private void orderOfWhatIsThrown() {
        for (int which : NO_PATTERNS) {
            PatternPairs x = new PatternPairs();
            c.due("set of a broken one", Checks.setting(x, which, "*"), REFUSED);
            c.due("set of one beyond", Checks.setting(x, which, "a".repeat(200)), REFUSED);
            c.due("set of a good one", Checks.setting(x, which, "a"), REFUSED);
        }
        c.due("broken before beyond", Checks.setting(new PatternPairs(), 0, "a".repeat(200) + "*)"), BROKEN + 201);
    }

    /** The patterns ab* and b|ab, THE TEXT ab, PLACE 3, and the tape abbb. */
    private static PatternPairs known() {
        PatternPairs x = pair("ab*", "b|ab");
        x.first(3);
        Checks.setting(x, 0, "abc)");
        Checks.put(x, "abbb");
        return x;
    }

    private void duePatternsAndText(String what, PatternPairs x) {
        c.due(what + ", octet 0", x.octet(0), (int) 'a');
        c.due(what + ", octet 1", x.octet(1), (int) 'b');
        c.dueThrown(what + ", octet 2", NO_BYTE, () -> x.octet(2));
        c.due(what + ", empty", x.empty(0) || x.empty(1), false);
        c.due(what + ", count 0", x.count(0, 12), 1L);
        c.due(what + ", count 1", x.count(1, 1), 1L);
        c.due(what + ", first 1", Checks.text(x, 1), "<a>");
        c.due(what + ", first 2", Checks.text(x, 2), "<b>");
    }

    private void dueNothingChanged(String want, String what, Call call) {
        PatternPairs x = known();
        c.dueThrown(what, want, () -> call.on(x));
        c.due(what + ", place", x.place(), 3);
        dueLength(what, x, 4);
        c.due(what + ", the tape's bytes", x.fits(0), true);
        duePatternsAndText(what, x);
    }

    private interface Call {
        void on(PatternPairs x);
    }

    /** "A call that throws changes nothing, but as said." */
    private void whatThrowsChangesNothing() {
        dueNothingChanged(REFUSED, "end -1", x -> x.end(-1));
        dueNothingChanged(REFUSED, "end 5", x -> x.end(5));
        dueNothingChanged(REFUSED, "empty -1", x -> x.empty(-1));
        dueNothingChanged(REFUSED, "empty 2", x -> x.empty(2));
        dueNothingChanged(REFUSED, "first -1", x -> x.first(-1));
        dueNothingChanged(REFUSED, "first 5", x -> x.first(5));
        dueNothingChanged(NO_BYTE, "octet -1", x -> x.octet(-1));
        dueNothingChanged(NO_BYTE, "octet 2", x -> x.octet(2));
        dueNothingChanged(REFUSED, "count -1", x -> x.count(-1, 0));
        dueNothingChanged(REFUSED, "count 2", x -> x.count(2, 0));
        dueNothingChanged(REFUSED, "count of -1", x -> x.count(0, -1));
        dueNothingChanged(REFUSED, "count of 13", x -> x.count(1, 13));
        PatternPairs x = known();
        Checks.put(x, "a" + "b".repeat(2028));
        c.dueThrown("feed", BEYOND, () -> x.feed(-1, -1, -1, -1, -1));
        c.due("feed, place", x.place(), 3);
        dueLength("feed", x, 2029);
        c.due("feed, the tape's bytes", x.fits(0), true);
        duePatternsAndText("feed", x);
    }

    /** The same sentence, "but as said": THE TAPE is empty, and PLACE is that of the latest set. */
    private void whatThrowsAndReadsChangesTheTapeAlone() {
        for (int which : NO_PATTERNS) {
            PatternPairs x = known();
            c.dueThrown("fits " + which, REFUSED, () -> x.fits(which));
            c.due("fits, place", x.place(), 3);
            dueLength("fits", x, 0);
            duePatternsAndText("fits", x);
        }
        Object[][] rows = {{0, "c*)", 2}, {1, "c**/", 3}, {0, "c".repeat(200), -1}, {1, "c".repeat(200), -1}, {2, "c", -1}, {-1, ")", -1}};
        for (Object[] row : rows) {
            PatternPairs x = known();
            Checks.setting(x, (Integer) row[0], (String) row[1]);
            c.due("set, place", x.place(), row[2]);
            dueLength("set", x, 0);
            duePatternsAndText("set", x);
        }
    }

    /** Promise 2: "The 20 bytes of five ints, the highest of each first, come to the TAPE" and "Answers its length." */
    private void feedBringsBytes() {
        PatternPairs x = pair("abcdefghijklmnopqrst", "[^b]*");
        c.due("feed", x.feed(0x61626364, 0x65666768, 0x696a6b6c, 0x6d6e6f70, 0x71727374), 20);
        c.due("in this order", x.fits(0), true);
        c.due("feed", x.feed(0x7f7f7f7f, 0x7f7f7f7f, 0x7f7f7f7f, 0x7f7f7f7f, 0x7f7f7f7f), 20);
        c.due("the greatest int of bytes that are texts", x.fits(1), true);
        for (int i = 0; i < 20; i++) {
            int[] fed = new int[5];
            fed[i / 4] = 0x80 << 24 - i % 4 * 8;
            c.due("feed", x.feed(fed[0], fed[1], fed[2], fed[3], fed[4]), 20);
            c.due("end", x.end(i), i);
            c.due("only zeros in front of byte " + i, x.fits(1), true);
            x.feed(fed[0], fed[1], fed[2], fed[3], fed[4]);
            x.end(i + 1);
            c.due("the highest bit in byte " + i, x.fits(1), false);
        }
        c.due("feed once", x.feed(-1, Integer.MIN_VALUE, Integer.MAX_VALUE, 0, 1), 20);
        c.due("feed twice", x.feed(-1, Integer.MIN_VALUE, Integer.MAX_VALUE, 0, 1), 40);
        c.due("end", x.end(39), 39);
        c.due("feed thrice", x.feed(-1, Integer.MIN_VALUE, Integer.MAX_VALUE, 0, 1), 59);
    }

    /** Promise 2: "it would have more than 2048: IndexOutOfBoundsException." */
    private void feedBeyond() {
        for (int length : new int[] {2027, 2028, 2029, 2030, 2040, 2047, 2048}) {
            PatternPairs x = new PatternPairs();
            Checks.put(x, "a".repeat(length));
            if (length + 20 <= 2048) {
                c.due("feed at " + length, x.feed(0, 0, 0, 0, 0), length + 20);
            } else {
                c.dueThrown("feed at " + length, BEYOND, () -> x.feed(0, 0, 0, 0, 0));
                dueLength("feed at " + length, x, length);
            }
        }
    }

    /** Promise 3: "The TAPE keeps its first n bytes, n 0 .. its length. Answers n." */
    private void endKeeps() {
        for (int length : new int[] {0, 1, 20, 21, 2047, 2048}) {
            PatternPairs x = pair("a*", "");
            Checks.put(x, "a".repeat(length));
            for (int n : new int[] {-1, length + 1, length + 20, 2049, Integer.MIN_VALUE, Integer.MAX_VALUE}) {
                c.dueThrown("end " + n + " of " + length, REFUSED, () -> x.end(n));
            }
            c.due("end at the length", x.end(length), length);
            c.due("end at half", x.end(length / 2), length / 2);
            c.dueThrown("end at the old length", length > 0 ? REFUSED : "nothing", () -> x.end(length));
            c.due("end at 0", x.end(0), 0);
            c.due("nothing is left", x.fits(1), true);
        }
        PatternPairs x = pair("ab", "abc");
        Checks.put(x, "abc");
        x.end(2);
        c.due("the first bytes are kept", x.fits(0), true);
        Checks.put(x, "abc");
        x.end(2);
        x.feed('c' << 24, 0, 0, 0, 0);
        x.end(3);
        c.due("the next come behind them", x.fits(1), true);
    }

    /** Promise 4: "which 0, 1. The TAPE is that PATTERN from now on." */
    private void setWhich() {
        PatternPairs x = new PatternPairs();
        for (int which : NO_PATTERNS) {
            c.due("set " + which, Checks.setting(x, which, "a"), REFUSED);
        }
        c.due("set 0", Checks.setting(x, 0, "a"), "2 states");
        c.due("pattern 1 is the empty one", x.empty(1) && !x.empty(0), true);
        c.due("set 1", Checks.setting(x, 1, "ab"), "3 states");
        c.due("pattern 0 is the same", Checks.has(x, 0, "a") && Checks.has(x, 1, "ab"), true);
        c.due("set 0 again", Checks.setting(x, 0, "abc"), "4 states");
        c.due("it is no more what it was", Checks.has(x, 0, "a"), false);
        c.due("set 0 to the empty tape", Checks.setting(x, 0, ""), "0 states");
        c.due("it is the empty one", x.empty(0) && x.count(0, 3) == 0, true);
        c.due("pattern 1 is the same", x.count(1, 2), 1L);
    }

    /** Promise 5: "Whether the empty text has it." */
    private void emptyText() {
        PatternPairs x = pair("a*", "a+");
        c.due("empty 0", x.empty(0), true);
        c.due("empty 1", x.empty(1), false);
        for (int which : NO_PATTERNS) {
            c.dueThrown("empty " + which, REFUSED, () -> x.empty(which));
        }
        for (String text : new String[] {"", "|", "()", "a|", "|a", "a?", "(a+)?", "(a?)+", "(a?b*)+", "(|a)(b|)"}) {
            c.due("empty of " + text, pair(text, "a").empty(0), true);
        }
        for (String text : new String[] {"a", "a+", "a?b", "(a|b)", "(a*b)+", "[^a]", ".", "a()", "(|a)b"}) {
            c.due("empty of " + text, pair("", text).empty(1), false);
        }
    }

    /** Promise 6: "Whether the TAPE (which is empty then) has it." */
    private void fitsTape() {
        PatternPairs x = pair("a*", "a+");
        c.due("the empty tape", x.fits(0), true);
        c.due("the empty tape", x.fits(1), false);
        c.due("a byte", Checks.has(x, 1, "a"), true);
        c.due("it is empty then", x.fits(1), false);
        c.due("a full tape", Checks.has(x, 1, "a".repeat(2048)), true);
        c.due("a full tape but for the first byte", Checks.has(x, 1, "b" + "a".repeat(2047)), false);
        c.due("a full tape but for the last byte", Checks.has(x, 1, "a".repeat(2047) + "b"), false);
        for (int which : NO_PATTERNS) {
            c.dueThrown("fits " + which, REFUSED, () -> x.fits(which));
        }
    }

    /** Promise 7: "kind 0: texts that have just one of both, 1: 0 and not 1, 2: 1 and not 0, 3: both, 4: neither." */
    private void firstKinds() {
        PatternPairs x = pair("b|c", "c|a");
        String[] texts = {"<a>", "<b>", "<a>", "<c>", "<>"};
        for (int kind = 0; kind < 5; kind++) {
            c.due("first " + kind, Checks.text(x, kind), texts[kind]);
        }
        for (int kind : new int[] {-1, 5, 6, 256, Integer.MIN_VALUE, Integer.MAX_VALUE}) {
            c.dueThrown("first " + kind, REFUSED, () -> x.first(kind));
        }
        PatternPairs far = pair("(" + "a".repeat(199) + ")+", "a".repeat(197) + "(" + "a".repeat(198) + ")*");
        c.due("a long one of both", far.first(3), 199 * 197);
        c.due("its last byte", far.octet(199 * 197 - 1), (int) 'a');
        c.dueThrown("behind it", NO_BYTE, () -> far.octet(199 * 197));
    }

    /** Promise 7: "how many bytes; -1: there is none (THE TEXT is empty)." */
    private void firstOfNone() {
        PatternPairs x = pair(ANY + "*", ANY + "*");
        int[] due = {-1, -1, -1, 0, -1};
        for (int kind = 0; kind < 5; kind++) {
            c.due("first " + kind, x.first(kind), due[kind]);
            c.dueThrown("octet 0 after first " + kind, NO_BYTE, () -> x.octet(0));
        }
        Checks.pattern(x, 0, "ab");
        c.due("both", x.first(3), 2);
        c.due("octet 1", x.octet(1), (int) 'b');
        c.due("0 and not 1", x.first(1), -1);
        c.dueThrown("octet 0", NO_BYTE, () -> x.octet(0));
        c.dueThrown("octet -1", NO_BYTE, () -> x.octet(-1));
    }

    /** Promise 8: "Byte i of THE TEXT; none: NoSuchElementException." */
    private void octetOfTheText() {
        PatternPairs x = new PatternPairs();
        int[] none = {-1, 0, 1, Integer.MIN_VALUE, Integer.MAX_VALUE};
        for (int i : none) {
            c.dueThrown("octet " + i + " before first", NO_BYTE, () -> x.octet(i));
        }
        Checks.pattern(x, 0, "[^ -~]~");
        c.due("first", x.first(1), 2);
        c.due("octet 0", x.octet(0), 0);
        c.due("octet 1", x.octet(1), 126);
        for (int i : new int[] {-1, 2, 3, Integer.MIN_VALUE, Integer.MAX_VALUE}) {
            c.dueThrown("octet " + i + " of 2", NO_BYTE, () -> x.octet(i));
        }
        Checks.pattern(x, 0, "z");
        c.due("THE TEXT is still that of the latest first", x.octet(1), 126);
        c.due("a shorter one", x.first(1), 1);
        c.due("octet 0", x.octet(0), (int) 'z');
        c.dueThrown("octet 1, of the longer one", NO_BYTE, () -> x.octet(1));
        c.due("the empty text", x.first(2), 0);
        c.dueThrown("octet 0 of the empty text", NO_BYTE, () -> x.octet(0));
    }

    /** Promise 9: "How many texts of n bytes, 0 .. 12, have a PATTERN" */
    private void countLengths() {
        PatternPairs x = pair("(a|b)*", "(a|b)+|c");
        for (int n = 0; n <= 12; n++) {
            c.due("count 0 of " + n, x.count(0, n), 1L << n);
            c.due("count 1 of " + n, x.count(1, n), n == 0 ? 0L : n == 1 ? 3L : 1L << n);
        }
        for (int n : new int[] {-1, 13, 14, Integer.MIN_VALUE, Integer.MAX_VALUE}) {
            c.dueThrown("count 0 of " + n, REFUSED, () -> x.count(0, n));
            c.dueThrown("count 1 of " + n, REFUSED, () -> x.count(1, n));
        }
        for (int which : NO_PATTERNS) {
            c.dueThrown("count " + which, REFUSED, () -> x.count(which, 0));
            c.dueThrown("count " + which + " of 13", REFUSED, () -> x.count(which, 13));
        }
        c.due("a text is counted once", pair("(a|a)(a|a)|aa", "").count(0, 2), 1L);
    }

    /** Promise 9: "as a long that wraps." */
    private void countWraps() {
        PatternPairs x = pair(ANY + "*", ".*");
        for (int n = 0; n <= 12; n++) {
            c.due("count of all, " + n, x.count(0, n), BigInteger.valueOf(128).pow(n).longValue());
            c.due("count of dots, " + n, x.count(1, n), BigInteger.valueOf(127).pow(n).longValue());
        }
        c.due("2 to the 63 wraps", x.count(0, 9), Long.MIN_VALUE);
        c.due("2 to the 70 wraps", x.count(0, 10), 0L);
        c.due("2 to the 84 wraps", x.count(0, 12), 0L);
        BigInteger both = BigInteger.valueOf(126).pow(9).add(BigInteger.valueOf(126).pow(8));
        c.due("a sum that wraps", pair("[^ab]*(a|[^ab])", "").count(0, 9), both.longValue());
    }

    /** Promise 10: "PLACE of the latest set, -1 if it told none, or before." */
    private void placeOfTheLatest() {
        PatternPairs x = new PatternPairs();
        c.due("before", x.place(), -1);
        Checks.has(x, 0, "*");
        c.due("before, after other calls", x.place(), -1);
        c.due("place 0", Checks.setting(x, 0, "*"), BROKEN + 0);
        c.due("again", x.place(), 0);
        c.due("the other pattern's", Checks.setting(x, 1, "a|b|)"), BROKEN + 4);
        c.due("of a good one", Checks.setting(x, 0, "a"), "2 states");
        c.due("the length", Checks.setting(x, 0, "(("), BROKEN + 2);
        c.due("of one beyond", Checks.setting(x, 0, "a".repeat(200)), BEYOND);
        c.due("place 1", Checks.setting(x, 1, "a/"), BROKEN + 1);
        c.due("of a number out of range", Checks.setting(x, 2, "a/"), REFUSED);
        c.due("place 1", Checks.setting(x, 1, "a/"), BROKEN + 1);
        c.due("of the empty tape", Checks.setting(x, 1, ""), "0 states");
        c.due("the greatest", Checks.setting(x, 1, "[" + "a".repeat(2047)), BROKEN + 2048);
    }
}
