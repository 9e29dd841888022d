import java.util.Random;
import java.util.function.Supplier;

/** Runs of calls in any order, up to an object's 512th call: every answer and every throw is the Model's. */
final class RunsTest {
    private static final int CALLS = 512;
    private static final String[] LEAVES = {
        "a", "b", "c", "a", "b", ".", "0", "~", " ", "]", "-", "^", "\\n", "\\-", "\\.", "[ab]", "[^a]", "[a-c]", "[^^]", "[[.*]", "[0-9\\]]",
    };
    private static final String[] SPOILERS = {"*", "(", ")", "[", "]", "-", "^", "\\", "/", "|", "q", "\177", "\37", "\0", "\200", "\377", "[b-a]"};
    private static final int[] ODD = {-1, 2, 5, 13, 2048, 2049, Integer.MIN_VALUE, Integer.MAX_VALUE};

    private final Checks c = new Checks();
    private final Random random = new Random(8);
    private PatternPairs x;
    private Model model;
    private int calls;
    private String run;

    public static void main(String[] args) {
        RunsTest test = new RunsTest();
        for (int i = 0; i < 100; i++) {
            test.runOnce(i);
        }
        test.c.close();
    }

    private void runOnce(int number) {
        x = new PatternPairs();
        model = new Model();
        calls = 0;
        run = "run " + number;
        for (int i = 0; i < CALLS; i++) {
            someCalls();
        }
    }

    /** Both may throw; what was thrown is an answer, too. */
    private void same(String call, Supplier<Object> got, Supplier<Object> want) {
        if (calls < CALLS) {
            calls++;
            c.due(run + ", call " + calls + ", " + call, answer(got), answer(want));
        }
    }

    private static Object answer(Supplier<Object> call) {
        Object[] answer = new Object[1];
        String thrown = Checks.thrownBy(() -> answer[0] = call.get());
        return thrown.equals("nothing") ? answer[0] : thrown;
    }

    private void someCalls() {
        int which = often() ? random.nextInt(2) : odd();
        int choice = random.nextInt(20);
        if (choice < 6) {
            tape(pattern());
            same("set " + which, () -> x.set(which), () -> model.set(which));
        } else if (choice < 9) {
            tape(random.nextBoolean() ? model.text() : bytes());
            same("fits " + which, () -> x.fits(which), () -> model.fits(which));
        } else if (choice < 12) {
            int kind = often() ? random.nextInt(5) : odd();
            same("first " + kind, () -> x.first(kind), () -> model.first(kind));
            octets();
        } else if (choice < 15) {
            int n = often() ? random.nextInt(13) : odd();
            same("count " + which + " " + n, () -> x.count(which, n), () -> model.count(which, n));
        } else if (choice < 17) {
            same("place", () -> x.place(), () -> model.place());
        } else if (choice < 19) {
            same("empty " + which, () -> x.empty(which), () -> model.empty(which));
        } else {
            end(often() ? random.nextInt(model.tapeLength() + 1) : odd());
        }
    }

    private boolean often() {
        return random.nextInt(10) > 0;
    }

    private int odd() {
        return ODD[random.nextInt(ODD.length)];
    }

    private void octets() {
        int length = model.text().length();
        for (int i : new int[] {0, random.nextInt(length + 1), length - 1, length}) {
            same("octet " + i, () -> x.octet(i), () -> model.octet(i));
        }
    }

    private void end(int n) {
        same("end " + n, () -> x.end(n), () -> model.end(n));
    }

    /** Bytes behind those that are there, if any; seldom the last 20 are not cut to the bytes that count. */
    private void tape(String bytes) {
        int due = model.tapeLength() + bytes.length();
        for (int at = 0; at < bytes.length(); at += 20) {
            int[] ints = new int[5];
            for (int i = 0; i < 20; i++) {
                int b = at + i < bytes.length() ? bytes.charAt(at + i) : random.nextInt(256);
                ints[i / 4] = ints[i / 4] << 8 | b;
            }
            same("feed", () -> x.feed(ints[0], ints[1], ints[2], ints[3], ints[4]), () -> model.feed(ints));
        }
        if (often()) {
            end(due);
        }
    }

    private String bytes() {
        StringBuilder bytes = new StringBuilder();
        for (int i = random.nextInt(12); i > 0; i--) {
            bytes.append(often() ? "abc0".charAt(random.nextInt(4)) : (char) random.nextInt(256));
        }
        return bytes.toString();
    }

    private String pattern() {
        switch (random.nextInt(40)) {
            case 0:
                return "a".repeat(198 + random.nextInt(4));
            case 1:
                return "(a|b)*a" + "(a|b)".repeat(5 + random.nextInt(4));
            case 2:
                return "a?".repeat(397 + random.nextInt(4)) + "a*";
            case 3:
                return "(".repeat(39 + random.nextInt(3)) + "ab" + ")*".repeat(39 + random.nextInt(3));
            case 4:
                return "(" + "a".repeat(1 + random.nextInt(40)) + ")+" + "b".repeat(random.nextInt(3));
            case 5:
                return "a".repeat(random.nextInt(60)) + "+|b" + "*".repeat(random.nextInt(300));
            default:
                return spoiled(part(1 + random.nextInt(4)));
        }
    }

    private String spoiled(String pattern) {
        if (random.nextInt(4) > 0) {
            return pattern;
        }
        int at = random.nextInt(pattern.length() + 1);
        return pattern.substring(0, at) + SPOILERS[random.nextInt(SPOILERS.length)] + pattern.substring(at);
    }

    private String part(int depth) {
        int choice = depth == 0 ? 0 : random.nextInt(5);
        switch (choice) {
            case 0:
                return LEAVES[random.nextInt(LEAVES.length)];
            case 1:
                return part(depth - 1) + "|" + part(depth - 1);
            case 2:
                return "(" + part(depth - 1) + ")" + "*+?".charAt(random.nextInt(3));
            case 3:
                return "(" + (random.nextInt(8) > 0 ? part(depth - 1) : "") + ")";
            default:
                return part(depth - 1) + part(depth - 1) + (random.nextInt(4) > 0 ? "" : part(depth - 1));
        }
    }
}
