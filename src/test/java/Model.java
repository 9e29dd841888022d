import java.math.BigInteger;
import java.nio.IntBuffer;
import java.util.ArrayList;
import java.util.BitSet;
import java.util.HashMap;
import java.util.HashSet;
import java.util.List;
import java.util.Map;
import java.util.NoSuchElementException;
import java.util.Set;
import java.util.TreeMap;

/** The whole document in its plainest form, without a thought for room or time: what each call of a run is due. */
final class Model {
    private StringBuilder tape = new StringBuilder();
    private final Texts[] patterns = {new Texts(""), new Texts("")};
    private String text = "";
    private int place = -1;

    int tapeLength() {
        return tape.length();
    }

    String text() {
        return text;
    }

    int feed(int... ints) {
        if (tape.length() + 20 > 2048) {
            throw new IndexOutOfBoundsException();
        }
        for (int four : ints) {
            for (int shift = 24; shift >= 0; shift -= 8) {
                tape.append((char) (four >> shift & 255));
            }
        }
        return tape.length();
    }

    int end(int n) {
        refuseUnless(n >= 0 && n <= tape.length());
        tape.setLength(n);
        return n;
    }

    int set(int which) {
        String read = readTape();
        place = -1;
        refuseUnless(which == 0 || which == 1);
        Texts texts;
        try {
            texts = new Texts(read);
        } catch (Broken e) {
            place = e.at;
            throw new UnsupportedOperationException();
        }
        patterns[which] = texts;
        return texts.states;
    }

    boolean empty(int which) {
        refuseUnless(which == 0 || which == 1);
        return patterns[which].has("");
    }

    boolean fits(int which) {
        String read = readTape();
        refuseUnless(which == 0 || which == 1);
        return patterns[which].has(read);
    }

    int first(int kind) {
        refuseUnless(kind >= 0 && kind <= 4);
        String found = firstText(kind);
        text = found == null ? "" : found;
        return found == null ? -1 : found.length();
    }

    int octet(int i) {
        if (i < 0 || i >= text.length()) {
            throw new NoSuchElementException();
        }
        return text.charAt(i);
    }

    long count(int which, int n) {
        refuseUnless((which == 0 || which == 1) && n >= 0 && n <= 12);
        return patterns[which].count(n);
    }

    int place() {
        return place;
    }

    private static void refuseUnless(boolean inRange) {
        if (!inRange) {
            throw new IllegalArgumentException();
        }
    }

    private String readTape() {
        String read = tape.toString();
        tape = new StringBuilder();
        return read;
    }

    /** All texts in their order; of those that lead to the same places of both patterns, only the first goes on. */
    private String firstText(int kind) {
        if (Oracle.wanted(kind, patterns[0].has(""), patterns[1].has(""))) {
            return "";
        }
        Set<List<Integer>> met = new HashSet<>();
        Map<String, List<Integer>> texts = new TreeMap<>(Map.of("", List.of(0, 0)));
        while (!texts.isEmpty()) {
            Map<String, List<Integer>> longer = new TreeMap<>();
            for (Map.Entry<String, List<Integer>> entry : texts.entrySet()) {
                for (char b = 0; b < 128; b++) {
                    int set0 = patterns[0].steps.get(entry.getValue().get(0))[b];
                    int set1 = patterns[1].steps.get(entry.getValue().get(1))[b];
                    if (met.add(List.of(set0, set1))) {
                        if (Oracle.wanted(kind, patterns[0].accepts(set0), patterns[1].accepts(set1))) {
                            return entry.getKey() + b;
                        }
                        longer.put(entry.getKey() + b, List.of(set0, set1));
                    }
                }
            }
            texts = longer;
        }
        return null;
    }

    /** Where a text is broken. */
    private static final class Broken extends RuntimeException {
        private static final long serialVersionUID = 1L;
        private final int at;

        private Broken(int at) {
            this.at = at;
        }
    }

    /** A part of a pattern: which places its texts begin and end with. */
    private static final class Part {
        private final BitSet heads = new BitSet();
        private final BitSet tails = new BitSet();
        private boolean skippable;
    }

    /** A pattern, by the grammar: a method for each of its words; and its sets of places, that of the empty text first. */
    private static final class Texts {
        private final String source;
        private final List<BitSet> bytes = new ArrayList<>();
        private final List<BitSet> after = new ArrayList<>();
        private final Part whole;
        private final List<BitSet> sets = new ArrayList<>();
        private final List<int[]> steps = new ArrayList<>();
        private final int states;
        private int at;
        private int open;

        private Texts(String source) {
            this.source = source;
            whole = readR();
            if (at < source.length()) {
                throw new Broken(at);
            }
            walk();
            states = countStates();
            if (states > 200) {
                throw new IndexOutOfBoundsException();
            }
        }

        private boolean has(String text) {
            int set = 0;
            for (char b : text.toCharArray()) {
                if (b > 127) {
                    return false;
                }
                set = steps.get(set)[b];
            }
            return text.isEmpty() ? whole.skippable : accepts(set);
        }

        private long count(int n) {
            if (n == 0) {
                return whole.skippable ? 1 : 0;
            }
            Map<Integer, BigInteger> ways = Map.of(0, BigInteger.ONE);
            for (int i = 0; i < n; i++) {
                Map<Integer, BigInteger> longer = new HashMap<>();
                ways.forEach((set, many) -> {
                    for (int next : steps.get(set)) {
                        longer.merge(next, many, BigInteger::add);
                    }
                });
                ways = longer;
            }
            BigInteger texts = BigInteger.ZERO;
            for (Map.Entry<Integer, BigInteger> entry : ways.entrySet()) {
                texts = accepts(entry.getKey()) ? texts.add(entry.getValue()) : texts;
            }
            return texts.longValue();
        }

        private boolean accepts(int set) {
            return sets.get(set).intersects(whole.tails);
        }

        private void walk() {
            Map<BitSet, Integer> met = new HashMap<>();
            sets.add(new BitSet());
            for (int s = 0; s < sets.size(); s++) {
                BitSet reach = placesAfter(s);
                int[] row = new int[128];
                for (int b = 0; b < 128; b++) {
                    BitSet next = takers(reach, b);
                    if (met.putIfAbsent(next, sets.size()) == null) {
                        sets.add(next);
                    }
                    row[b] = met.get(next);
                }
                steps.add(row);
                if (met.size() > 400) {
                    throw new IndexOutOfBoundsException();
                }
            }
        }

        private BitSet placesAfter(int set) {
            BitSet reach = new BitSet();
            if (set == 0) {
                reach.or(whole.heads);
            }
            sets.get(set).stream().forEach(p -> reach.or(after.get(p)));
            return reach;
        }

        private BitSet takers(BitSet reach, int b) {
            BitSet takers = new BitSet();
            reach.stream().filter(p -> bytes.get(p).get(b)).forEach(takers::set);
            return takers;
        }

        /** How many sets differ by the texts that may follow, but for those that none may follow. */
        private int countStates() {
            int[] names = new int[sets.size()];
            for (int s = 0; s < names.length; s++) {
                names[s] = accepts(s) ? 1 : 0;
            }
            for (int known = -1, told = 0; told > known;) {
                known = told;
                Map<IntBuffer, Integer> longer = new HashMap<>();
                int[] renamed = new int[names.length];
                for (int s = 0; s < names.length; s++) {
                    int[] name = new int[129];
                    name[128] = names[s];
                    for (int b = 0; b < 128; b++) {
                        name[b] = names[steps.get(s)[b]];
                    }
                    longer.putIfAbsent(IntBuffer.wrap(name), longer.size());
                    renamed[s] = longer.get(IntBuffer.wrap(name));
                }
                names = renamed;
                told = longer.size();
            }
            Set<Integer> living = new HashSet<>();
            for (int s = 0; s < names.length; s++) {
                if (accepts(s) || !placesAfter(s).isEmpty()) {
                    living.add(names[s]);
                }
            }
            return living.size();
        }

        private char next() {
            return at < source.length() ? source.charAt(at) : 0;
        }

        private boolean nextIs(String some) {
            return at < source.length() && some.indexOf(source.charAt(at)) >= 0;
        }

        private Part readR() {
            Part all = readS();
            while (nextIs("|")) {
                at++;
                Part choice = readS();
                all.heads.or(choice.heads);
                all.tails.or(choice.tails);
                all.skippable |= choice.skippable;
            }
            return all;
        }

        private Part readS() {
            Part all = new Part();
            all.skippable = true;
            while (at < source.length() && !nextIs("|)")) {
                Part part = readA();
                all.tails.stream().forEach(p -> after.get(p).or(part.heads));
                if (all.skippable) {
                    all.heads.or(part.heads);
                }
                if (!part.skippable) {
                    all.tails.clear();
                }
                all.tails.or(part.tails);
                all.skippable &= part.skippable;
            }
            return all;
        }

        private Part readA() {
            Part part = readB();
            while (nextIs("*+?")) {
                if (nextIs("*+")) {
                    part.tails.stream().forEach(p -> after.get(p).or(part.heads));
                }
                part.skippable |= nextIs("*?");
                at++;
            }
            return part;
        }

        private Part readB() {
            if (nextIs("(")) {
                return readGroup();
            }
            if (bytes.size() == 400) {
                throw new Broken(at);
            }
            BitSet taken = nextIs("[") ? readClass() : nextIs(".") ? readAny() : one(readC("/\\|*+?()[."));
            Part part = new Part();
            part.heads.set(bytes.size());
            part.tails.set(bytes.size());
            bytes.add(taken);
            after.add(new BitSet());
            return part;
        }

        private Part readGroup() {
            if (open == 40) {
                throw new Broken(at);
            }
            at++;
            open++;
            Part part = readR();
            if (!nextIs(")")) {
                throw new Broken(at);
            }
            at++;
            open--;
            return part;
        }

        private BitSet readAny() {
            at++;
            BitSet taken = new BitSet();
            taken.set(0, 128);
            taken.clear('\n');
            return taken;
        }

        private static BitSet one(int b) {
            BitSet taken = new BitSet();
            taken.set(b);
            return taken;
        }

        private BitSet readClass() {
            at++;
            boolean others = nextIs("^");
            at += others ? 1 : 0;
            BitSet taken = new BitSet();
            do {
                int from = readC("/\\]-");
                int to = from;
                if (nextIs("-")) {
                    at++;
                    int second = at;
                    to = readC("/\\]-");
                    if (to < from) {
                        throw new Broken(second);
                    }
                }
                taken.set(from, to + 1);
            } while (!nextIs("]"));
            at++;
            if (others) {
                taken.flip(0, 128);
            }
            return taken;
        }

        private int readC(String barred) {
            if (nextIs("\\")) {
                at++;
                if (!nextIs("/\\|*+?()[.]-^ntr")) {
                    throw new Broken(at);
                }
                char escaped = source.charAt(at++);
                return escaped == 'n' ? 10 : escaped == 't' ? 9 : escaped == 'r' ? 13 : escaped;
            }
            if (next() < 32 || next() > 126 || nextIs(barred)) {
                throw new Broken(at);
            }
            return source.charAt(at++);
        }
    }
}
