import java.util.Random;
import java.util.regex.Matcher;
import java.util.regex.Pattern;

/** Promises 4 and 10 on texts made at random, whole and broken, against a reading by java.util.regex. */
final class BrokenOracleTest {
    private static final String ESCAPE = "\\\\[/\\\\|*+?()\\[.\\]\\-^ntr]";
    private static final String IN_CLASS = "(?:[ -~&&[^/\\\\\\]\\-]]|" + ESCAPE + ")";
    private static final String PART = "(?:" + IN_CLASS + "(?:-" + IN_CLASS + ")?+)";
    private static final Pattern PLACE =
        Pattern.compile("\\.|[ -~&&[^/\\\\|*+?()\\[.]]|" + ESCAPE + "|\\[\\^?+" + PART + "++\\]");
    private static final Pattern PLACE_BEGUN = Pattern.compile("\\\\|\\[\\^?+(?:" + IN_CLASS + "-" + IN_CLASS + "|" + IN_CLASS
        + "(?!-))*+(?:" + IN_CLASS + "-)?+\\\\?+");
    private static final Pattern RANGE = Pattern.compile("(" + IN_CLASS + ")(?:-(" + IN_CLASS + "))?+");
    private static final String LIKELY = "aab*+?()|()[]^-\\\\nq./z[-]";

    public static void main(String[] args) {
        Checks c = new Checks();
        Random random = new Random(4);
        int whole = 0;
        for (int i = 0; i < 300000; i++) {
            PatternPairs x = new PatternPairs();
            String text = text(random);
            int due = broken(text);
            whole += due < 0 ? 1 : 0;
            String thrown = Checks.thrownBy(() -> Checks.pattern(x, 0, text));
            c.due("set to " + text, thrown, due < 0 ? "nothing" : "UnsupportedOperationException");
            c.due("place of " + text, x.place(), due);
        }
        c.due("many were whole", whole > 10000, true);
        c.close();
    }

    private static String text(Random random) {
        StringBuilder text = new StringBuilder();
        for (int i = random.nextInt(14); i > 0; i--) {
            boolean likely = random.nextInt(25) > 0;
            text.append(likely ? LIKELY.charAt(random.nextInt(LIKELY.length())) : (char) random.nextInt(256));
        }
        return text.toString();
    }

    private static int broken(String text) {
        int open = 0;
        boolean repeatable = false;
        for (int at = 0; at < text.length();) {
            char b = text.charAt(at);
            Matcher place = PLACE.matcher(text).region(at, text.length());
            if (b == '(') {
                open++;
                repeatable = false;
            } else if (b == ')' && open > 0) {
                open--;
                repeatable = true;
            } else if (b == '|') {
                repeatable = false;
            } else if ("*+?".indexOf(b) >= 0 && repeatable) {
                repeatable = true;
            } else if (place.lookingAt()) {
                int less = lessRange(text, at, place.end());
                if (less >= 0) {
                    return less;
                }
                repeatable = true;
                at = place.end() - 1;
            } else {
                Matcher begun = PLACE_BEGUN.matcher(text).region(at, text.length());
                int end = begun.lookingAt() ? begun.end() : at;
                int less = lessRange(text, at, end);
                return less >= 0 ? less : end;
            }
            at++;
        }
        return open > 0 ? text.length() : -1;
    }

    /** Where the second byte of a range stands that is less than the first, in a class from at to end; or -1. */
    private static int lessRange(String text, int at, int end) {
        if (at >= end || text.charAt(at) != '[') {
            return -1;
        }
        Matcher range = RANGE.matcher(text);
        for (int from = at + (text.startsWith("[^", at) ? 2 : 1); from < end; from = range.end()) {
            if (!range.region(from, end).lookingAt()) {
                return -1;
            }
            if (range.group(2) != null && value(range.group(2)) < value(range.group(1))) {
                return range.start(2);
            }
        }
        return -1;
    }

    private static int value(String symbol) {
        int control = symbol.length() < 2 ? -1 : "ntr".indexOf(symbol.charAt(1));
        return control >= 0 ? "\n\t\r".charAt(control) : symbol.charAt(symbol.length() - 1);
    }
}
