import java.math.BigInteger;
import java.util.ArrayDeque;
import java.util.ArrayList;
import java.util.BitSet;
import java.util.HashMap;
import java.util.HashSet;
import java.util.List;
import java.util.Map;
import java.util.Random;
import java.util.Set;

/**
 * A pattern made at random, and what is due for it, found in another way than the class does: by a net
 * with free moves, states of all 128 bytes, and names of states that grow with the length of the texts.
 */
final class Oracle {
    private static final String ESCAPED = "/\\|*+?()[.]-^";

    private final Random random;
    private final String alphabet;
    private final StringBuilder pattern = new StringBuilder();
    private final StringBuilder javaPattern = new StringBuilder();

    private final List<List<Integer>> free = new ArrayList<>();
    private final List<BitSet> leafBytes = new ArrayList<>();
    private final List<Integer> leafFrom = new ArrayList<>();
    private final List<Integer> leafTo = new ArrayList<>();
    private final int entry;
    private final int exit;

    private final List<int[]> steps = new ArrayList<>();
    private final List<Boolean> accepting = new ArrayList<>();
    private int sets;

    Oracle(Random random, String alphabet, int size) {
        this.random = random;
        this.alphabet = alphabet;
        entry = node();
        exit = node();
        choice(entry, exit, size);
        walk();
    }

    String pattern() {
        return pattern.toString();
    }

    /** The same pattern for java.util.regex. */
    String javaPattern() {
        return javaPattern.toString();
    }

    int sets() {
        return sets;
    }

    boolean empty() {
        return closure(entry).get(exit);
    }

    boolean has(String text) {
        int state = 0;
        for (char b : text.toCharArray()) {
            if (b > 127) {
                return false;
            }
            state = steps.get(state)[b];
        }
        return text.isEmpty() ? empty() : accepting.get(state);
    }

    long count(int n) {
        if (n == 0) {
            return empty() ? 1 : 0;
        }
        BigInteger[] ways = new BigInteger[steps.size()];
        for (int s = 0; s < ways.length; s++) {
            ways[s] = accepting.get(s) ? BigInteger.ONE : BigInteger.ZERO;
        }
        for (int i = 0; i < n; i++) {
            BigInteger[] longer = new BigInteger[ways.length];
            for (int s = 0; s < ways.length; s++) {
                longer[s] = BigInteger.ZERO;
                for (int t : steps.get(s)) {
                    longer[s] = longer[s].add(ways[t]);
                }
            }
            ways = longer;
        }
        return ways[0].longValue();
    }

    /** How many states the least automaton has: those that differ, but for one from which there is no text. */
    int states() {
        int n = steps.size();
        List<Object> names = new ArrayList<>(accepting);
        int known = 0;
        for (int told = 1; told > known;) {
            known = told;
            names = longerNames(names);
            told = new HashSet<>(names).size();
        }
        boolean[] live = live();
        Set<Object> states = new HashSet<>();
        for (int s = 0; s < n; s++) {
            if (live[s]) {
                states.add(names.get(s));
            }
        }
        return states.size();
    }

    /** Names that tell states apart by texts of one byte more: a state's own name and those it comes to by each byte. */
    private List<Object> longerNames(List<Object> names) {
        Map<List<Object>, Integer> known = new HashMap<>();
        List<Object> longer = new ArrayList<>();
        for (int s = 0; s < names.size(); s++) {
            List<Object> name = new ArrayList<>(List.of(names.get(s)));
            for (int t : steps.get(s)) {
                name.add(names.get(t));
            }
            known.putIfAbsent(name, known.size());
            longer.add(known.get(name));
        }
        return longer;
    }

    private boolean[] live() {
        boolean[] live = new boolean[steps.size()];
        for (int round = 0; round <= live.length; round++) {
            for (int s = 0; s < live.length; s++) {
                live[s] = live[s] || accepting.get(s);
                for (int t : steps.get(s)) {
                    live[s] = live[s] || live[t];
                }
            }
        }
        return live;
    }

    /** THE TEXT as Checks.text writes it. */
    static String text(Oracle a, Oracle b, int kind) {
        if (wanted(kind, a.empty(), b.empty())) {
            return "<>";
        }
        Map<Integer, Boolean> seen = new HashMap<>();
        ArrayDeque<Integer> pairs = new ArrayDeque<>(List.of(0));
        ArrayDeque<String> texts = new ArrayDeque<>(List.of(""));
        int width = b.steps.size();
        while (!pairs.isEmpty()) {
            int pair = pairs.remove();
            String text = texts.remove();
            for (int c = 0; c < 128; c++) {
                int s = a.steps.get(pair / width)[c];
                int t = b.steps.get(pair % width)[c];
                if (wanted(kind, a.accepting.get(s), b.accepting.get(t))) {
                    return "<" + text + (char) c + ">";
                }
                if (seen.put(s * width + t, true) == null) {
                    pairs.add(s * width + t);
                    texts.add(text + (char) c);
                }
            }
        }
        return "none";
    }

    static boolean wanted(int kind, boolean in0, boolean in1) {
        boolean[] wanted = {in0 ^ in1, in0 && !in1, !in0 && in1, in0 && in1, !(in0 || in1)};
        return wanted[kind];
    }

    /** State 0 is the start; it is met once, and the empty text is never accepted. */
    private void walk() {
        Map<BitSet, Integer> known = new HashMap<>();
        List<BitSet> reached = new ArrayList<>();
        reached.add(closure(entry));
        accepting.add(false);
        for (int s = 0; s < reached.size() && s <= 600; s++) {
            int[] row = new int[128];
            for (int b = 0; b < 128; b++) {
                BitSet ended = new BitSet();
                for (int leaf = 0; leaf < leafBytes.size(); leaf++) {
                    if (reached.get(s).get(leafFrom.get(leaf)) && leafBytes.get(leaf).get(b)) {
                        ended.set(leaf);
                    }
                }
                Integer state = known.get(ended);
                if (state == null) {
                    state = reached.size();
                    known.put(ended, state);
                    BitSet next = new BitSet();
                    ended.stream().forEach(leaf -> next.or(closure(leafTo.get(leaf))));
                    reached.add(next);
                    accepting.add(next.get(exit));
                }
                row[b] = state;
            }
            steps.add(row);
        }
        sets = known.size();
    }

    private BitSet closure(int from) {
        BitSet closed = new BitSet();
        ArrayDeque<Integer> open = new ArrayDeque<>(List.of(from));
        while (!open.isEmpty()) {
            int n = open.remove();
            if (!closed.get(n)) {
                closed.set(n);
                open.addAll(free.get(n));
            }
        }
        return closed;
    }

    private int node() {
        free.add(new ArrayList<>());
        return free.size() - 1;
    }

    private void write(String both) {
        pattern.append(both);
        javaPattern.append(both);
    }

    private void choice(int from, int to, int size) {
        int parts = 1 + random.nextInt(3) * random.nextInt(2);
        for (int i = 0; i < parts; i++) {
            if (i > 0) {
                write("|");
            }
            sequence(from, to, size / parts);
        }
    }

    private void sequence(int from, int to, int size) {
        int parts = Math.min(size, random.nextInt(5));
        int at = from;
        for (int i = 0; i < parts; i++) {
            int next = node();
            atom(at, next, size / parts);
            at = next;
        }
        free.get(at).add(to);
    }

    private void atom(int from, int to, int size) {
        int in = node();
        int out = node();
        javaPattern.append("(?:");
        if (size > 1) {
            pattern.append("(");
            choice(in, out, size);
            pattern.append(")");
        } else {
            leaf(in, out);
        }
        javaPattern.append(")");
        boolean skip = false;
        boolean again = false;
        for (int i = random.nextInt(3) * random.nextInt(2); i > 0; i--) {
            char sign = "*+?".charAt(random.nextInt(3));
            pattern.append(sign);
            skip |= sign != '+';
            again |= sign != '?';
        }
        javaPattern.append(skip && again ? "*" : again ? "+" : skip ? "?" : "");
        free.get(from).add(in);
        free.get(out).add(to);
        if (skip) {
            free.get(from).add(to);
        }
        if (again) {
            free.get(out).add(in);
        }
    }

    private void leaf(int from, int to) {
        BitSet bytes = new BitSet();
        int kind = random.nextInt(12);
        if (kind == 0) {
            pattern.append(".");
            bytes.set(0, 128);
            bytes.clear(10);
        } else if (kind < 4) {
            classOf(bytes);
        } else {
            bytes.set(symbol("/\\|*+?()[."));
        }
        leafBytes.add(bytes);
        leafFrom.add(from);
        leafTo.add(to);
        javaPattern.append("[");
        bytes.stream().forEach(b -> javaPattern.append(String.format("\\x%02x", b)));
        javaPattern.append("]");
    }

    private void classOf(BitSet bytes) {
        pattern.append("[");
        boolean others = random.nextInt(4) == 0;
        if (others) {
            pattern.append("^");
        }
        int parts = 1 + random.nextInt(3);
        for (int i = 0; i < parts; i++) {
            int before = pattern.length();
            int first = symbol(i == 0 ? "/\\]-^" : "/\\]-");
            bytes.set(first);
            if (random.nextInt(3) == 0) {
                int middle = pattern.length();
                pattern.append("-");
                int second = symbol("/\\]-");
                if (second < first) {
                    String swapped = pattern.substring(middle + 1) + "-" + pattern.substring(before, middle);
                    boolean caret = i == 0 && swapped.startsWith("^");
                    pattern.setLength(before);
                    pattern.append(caret ? "\\" : "").append(swapped);
                }
                bytes.set(Math.min(first, second), Math.max(first, second) + 1);
            }
        }
        pattern.append("]");
        if (others) {
            bytes.flip(0, 128);
        }
    }

    /** Writes one byte of the alphabet, behind a backslash if it must be, or may be by chance. */
    private int symbol(String barred) {
        char c = alphabet.charAt(random.nextInt(alphabet.length()));
        int control = "\n\t\r".indexOf(c);
        if (control >= 0) {
            pattern.append('\\').append("ntr".charAt(control));
        } else if (barred.indexOf(c) >= 0 || ESCAPED.indexOf(c) >= 0 && random.nextBoolean()) {
            pattern.append('\\').append(c);
        } else {
            pattern.append(c);
        }
        return c;
    }
}
