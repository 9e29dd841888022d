/**
 * The sentences of the document's Terms that say what a PATTERN is and where it is broken: each that names an
 * edge is quoted above its test. Every byte 0 .. 255 is tried at every place where the sentences tell bytes apart.
 */
final class PatternEdgesTest {
    private static final String BROKEN = "UnsupportedOperationException at ";
    private static final String BARRED = "/\\|*+?()[.";
    private static final String ESCAPED = BARRED + "]-^";

    private final Checks c = new Checks();

    public static void main(String[] args) {
        PatternEdgesTest test = new PatternEdgesTest();
        test.anyNumberOfPartsButNoRepeatAlone();
        test.characterByItself();
        test.characterBehindABackslash();
        test.dot();
        test.classHasAPart();
        test.firstByteOfAPart();
        test.secondByteOfAPart();
        test.byteOfAClassBehindABackslash();
        test.allOthers();
        test.secondIsNotLess();
        test.secondIsNotLessByValue();
        test.firstByteThatCantStand();
        test.lengthAtTheEnd();
        test.open();
        test.places();
        test.c.close();
    }

    private void dueSet(String text, String want) {
        PatternPairs x = new PatternPairs();
        c.due("set(0) to " + text, Checks.setting(x, 0, text), want);
        c.due("set(1) to " + text, Checks.setting(x, 1, text), want);
    }

    /** The pattern stands, and of all texts of one byte just these have it. */
    private void dueBytes(String pattern, String bytes) {
        dueSet(pattern, "2 states");
        for (int from = 0; from < 256; from += 64) {
            PatternPairs x = new PatternPairs();
            Checks.pattern(x, 0, pattern);
            c.due("count of " + pattern, x.count(0, 1), (long) bytes.length());
            for (int b = from; b < from + 64; b++) {
                String text = String.valueOf((char) b);
                c.due("byte " + b + " has " + pattern, Checks.has(x, 0, text), bytes.contains(text));
            }
        }
    }

    private static String bytes(int from, int to) {
        StringBuilder bytes = new StringBuilder();
        for (int b = from; b <= to; b++) {
            bytes.append((char) b);
        }
        return bytes.toString();
    }

    private static boolean plain(int b, String barred) {
        return b >= 32 && b <= 126 && barred.indexOf(b) < 0;
    }

    /** The byte that stands for this one behind a backslash, -1 if it can't stand there. */
    private static int meant(int b) {
        int control = "ntr".indexOf(b);
        return control >= 0 ? "\n\t\r".charAt(control) : ESCAPED.indexOf(b) >= 0 ? b : -1;
    }

    /** "R: S {| S}. S: {A}. A: B {* | + | ?}." */
    private void anyNumberOfPartsButNoRepeatAlone() {
        for (String none : new String[] {"", "|", "||", "()", "(|)", "()()", "()*", "()?+*", "(()|)"}) {
            dueSet(none, "0 states");
        }
        for (String one : new String[] {"a", "a|", "|a", "a||a", "(a)", "a()", "(|a|)", "a?", "a*", "a+*?+"}) {
            dueSet(one, "2 states");
        }
        for (String sign : new String[] {"*", "+", "?"}) {
            dueSet(sign, BROKEN + 0);
            dueSet("a|" + sign, BROKEN + 2);
            dueSet("(" + sign + ")", BROKEN + 1);
        }
        dueSet("a" + "*+?".repeat(682) + "*", "2 states");
    }

    /** "CHARACTER: a byte 32 .. 126 but / \ | * + ? ( ) [ ." */
    private void characterByItself() {
        for (int b = 0; b < 256; b++) {
            String text = String.valueOf((char) b);
            if (plain(b, BARRED)) {
                dueBytes(text, text);
            } else if (b != '.' && b != '|') {
                dueSet(text, BROKEN + ("([\\".contains(text) ? 1 : 0));
                dueSet("ab|" + text, BROKEN + ("([\\".contains(text) ? 4 : 3));
            }
        }
    }

    /** "or \ and one of these or ] - ^ n (10) t (9) r (13)." */
    private void characterBehindABackslash() {
        for (int b = 0; b < 256; b++) {
            String text = "\\" + (char) b;
            if (meant(b) >= 0) {
                dueBytes(text, String.valueOf((char) meant(b)));
            } else {
                dueSet(text, BROKEN + 1);
                dueSet("ab" + text, BROKEN + 3);
            }
        }
    }

    /** ". any byte but 10, up to 127." */
    private void dot() {
        dueBytes(".", bytes(0, 9) + bytes(11, 127));
    }

    /** "CLASS: [ [^] PART {PART} ]" */
    private void classHasAPart() {
        dueSet("[]", BROKEN + 1);
        dueSet("[]a]", BROKEN + 1);
        dueSet("[^]", BROKEN + 2);
        dueSet("[^]a]", BROKEN + 2);
        dueBytes("[a]", "a");
        dueBytes("[a-c]", "abc");
        dueBytes("[" + "a".repeat(2046) + "]", "a");
        dueBytes("[^" + "a-b".repeat(681) + "c]", bytes(0, 96) + bytes(100, 127));
        dueSet("[a]]", "3 states");
    }

    /** "C a byte 32 .. 126 but / \ ] -", as a PART's first: "PART: C [- C]" */
    private void firstByteOfAPart() {
        for (int b = 0; b < 256; b++) {
            String text = String.valueOf((char) b);
            if (plain(b, "/\\]-^")) {
                dueBytes("[" + text + "]", text);
            }
            if (plain(b, "/\\]-")) {
                dueSet("[a" + text + "]", "2 states");
                dueSet("[^" + text + "]", "2 states");
                dueSet("[a-b" + text + "]", "2 states");
            } else if (b != '\\' && b != ']') {
                dueSet("[" + text + "]", BROKEN + 1);
                dueSet("[^" + text + "]", BROKEN + 2);
                dueSet("[a-b" + text + "]", BROKEN + 4);
                dueSet("[a" + text + "]", BROKEN + (b == '-' ? 3 : 2));
            }
        }
        dueBytes("[a^]", "^a");
        dueBytes("[^^]", bytes(0, 93) + bytes(95, 127));
    }

    /** "C a byte 32 .. 126 but / \ ] -", as a PART's second: "PART: C [- C]" */
    private void secondByteOfAPart() {
        for (int b = 0; b < 256; b++) {
            String text = String.valueOf((char) b);
            if (plain(b, "/\\]-")) {
                dueBytes("[ -" + text + "]", bytes(32, b));
            } else if (b != '\\') {
                dueSet("[ -" + text + "]", BROKEN + 3);
                dueSet("[^ -" + text + "]", BROKEN + 4);
            }
        }
        dueSet("[a-b-c]", BROKEN + 4);
    }

    /** "C .. or \ as above" */
    private void byteOfAClassBehindABackslash() {
        for (int b = 0; b < 256; b++) {
            String text = "\\" + (char) b;
            if (meant(b) >= 0) {
                dueBytes("[" + text + "]", String.valueOf((char) meant(b)));
                dueBytes("[\\t-" + text + "]", bytes(9, meant(b)));
                dueBytes("[" + text + "-~]", bytes(meant(b), 126));
            } else {
                dueSet("[" + text + "]", BROKEN + 2);
                dueSet("[^" + text + "]", BROKEN + 3);
                dueSet("[\\t-" + text + "]", BROKEN + 5);
            }
        }
    }

    /** "^: all others of 0 .. 127" */
    private void allOthers() {
        dueBytes("[^a]", bytes(0, 96) + bytes(98, 127));
        dueBytes("[^ -~]", bytes(0, 31) + bytes(127, 127));
        dueBytes("[^\\t-~]", bytes(0, 8) + bytes(127, 127));
        dueBytes("[^a\\-b]", bytes(0, 44) + bytes(46, 96) + bytes(99, 127));
    }

    /** "the second C of - is not less (one that is less: broken at its first byte)" */
    private void secondIsNotLess() {
        for (char b = 33; b <= 126; b++) {
            char less = (char) (b - 1);
            if (plain(b, "/\\]-^") && plain(less, "/\\]-^")) {
                dueBytes("[" + b + "-" + b + "]", String.valueOf(b));
                dueBytes("[" + less + "-" + b + "]", bytes(less, b));
                dueSet("[" + b + "-" + less + "]", BROKEN + 3);
                dueSet("[^" + b + "-" + less + "]", BROKEN + 4);
            }
        }
        dueSet("[b-a", BROKEN + 3);
        dueSet("[b-a/", BROKEN + 3);
        dueSet("[~- ]", BROKEN + 3);
        dueSet("x[a-cz-y]", BROKEN + 7);
    }

    /** The same, where a backslash stands in front: what counts is the byte that is meant. */
    private void secondIsNotLessByValue() {
        dueBytes("[\\t-\\n]", "\t\n");
        dueBytes("[\\n-\\r]", bytes(10, 13));
        dueBytes("[\\r- ]", bytes(13, 32));
        dueBytes("[\\n-n]", bytes(10, 'n'));
        dueSet("[\\n-\\t]", BROKEN + 4);
        dueSet("[\\r-\\n]", BROKEN + 4);
        dueSet("[ -\\r]", BROKEN + 3);
        dueSet("[n-\\n]", BROKEN + 3);
        dueBytes("[+-\\-]", "+,-");
        dueBytes("[\\--.]", "-.");
        dueSet("[.-\\-]", BROKEN + 3);
        dueSet("[\\^-\\]]", BROKEN + 4);
        dueSet("[a-\\^", BROKEN + 3);
    }

    /** "Broken at the PLACE (from 0) of the first byte that can't stand there" */
    private void firstByteThatCantStand() {
        dueSet(")", BROKEN + 0);
        dueSet(")(", BROKEN + 0);
        dueSet("a)*/", BROKEN + 1);
        dueSet("(a))", BROKEN + 3);
        dueSet("(a|*)/", BROKEN + 3);
        dueSet("()*)", BROKEN + 3);
        dueSet("a\\q/", BROKEN + 2);
        dueSet("[a-\\q]/", BROKEN + 4);
        dueSet("a\0)", BROKEN + 1);
        dueSet("a".repeat(300) + "\n" + "/", BROKEN + 300);
        dueSet("a" + "*".repeat(2046) + ")", BROKEN + 2047);
    }

    /** ".. the length at the end" */
    private void lengthAtTheEnd() {
        String[] texts = {"(", "(a", "((a)", "(a|", "(a*", "(()", "\\", "a\\", "[", "[^", "[a", "[^a", "[a-", "[a-b", "[\\", "[a-\\", "[\\n"};
        for (String text : texts) {
            dueSet(text, BROKEN + text.length());
        }
        dueSet("(" + "|".repeat(2047), BROKEN + 2048);
        dueSet("[" + "a".repeat(2047), BROKEN + 2048);
        dueSet("|".repeat(2047) + "\\", BROKEN + 2048);
    }

    /** "the 41st ( open .. : there." */
    private void open() {
        String forty = "(".repeat(40);
        dueSet(forty + "a" + ")".repeat(40), "2 states");
        dueSet(forty + "(a" + ")".repeat(41), BROKEN + 40);
        dueSet(forty + "(", BROKEN + 40);
        dueSet(forty, BROKEN + 40);
        dueSet("()".repeat(41) + "a", "2 states");
        dueSet("()".repeat(1004) + forty, BROKEN + 2048);
        dueSet(forty + ")(" + ")".repeat(40), "0 states");
        dueSet(forty + ")((", BROKEN + 42);
        dueSet("[(]" + "\\(" + forty + ")".repeat(40), "3 states");
    }

    /** "the 401st CHARACTER or CLASS (. is one): there." */
    private void places() {
        String[] all = {"a", ".", "\\*", "\\n", "[a]", "[^a]", "]"};
        for (String one : all) {
            String many = (one + "|").repeat(400);
            dueSet(many, "2 states");
            for (String next : all) {
                dueSet(many.substring(0, many.length() - 1) + next, BROKEN + (many.length() - 1));
            }
        }
        String full = "a|".repeat(400);
        dueSet(full + "()|(()*|)", "2 states");
        dueSet(full + "[", BROKEN + 800);
        dueSet(full + "\\", BROKEN + 800);
        dueSet(full + "((a", BROKEN + 802);
        dueSet(full + ")a", BROKEN + 800);
        dueSet("/" + full + "a", BROKEN + 0);
        dueSet("[a-c]|".repeat(100) + ".|".repeat(300), "2 states");
        dueSet("[a-c]|".repeat(100) + ".|".repeat(300) + "b", BROKEN + 1200);
    }
}
