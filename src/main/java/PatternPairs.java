import java.util.Arrays;
import java.util.NoSuchElementException;

/**
 * Two patterns side by side: whether they have the same texts, whether one's are all the other's,
 * and the first text that tells them apart.
 */
public final class PatternPairs {
    private static final int TAPE_BYTES = 2048;
    private static final int FEED_BYTES = 20;
    private static final int BYTES = 128;
    private static final int NEW_LINE = 10;
    private static final int MOST_OPEN = 40;
    private static final int MOST_PLACES = 400;
    private static final int MOST_SETS = 400;
    private static final int MOST_STATES = 200;
    private static final int LONGEST_COUNTED = 12;
    private static final int KINDS_OF_TEXT = 5;

    /** How many longs hold one bit for each place. */
    private static final int WORDS = 7;

    /** The state from which no text has the pattern; it stands in every automaton and is never counted. */
    private static final int DEAD = 0;

    /** The state of the empty text while the sets of places are walked; it is no set itself. */
    private static final int START = 1;

    private final Tape tape;
    private final Places places;
    private final Reader reader;
    private final SetWalk walk;
    private final Merger merger;
    private final Automaton[] patterns;
    private final Counter counter;
    private final Search search;
    private int brokenAt;

    public PatternPairs() {
        tape = new Tape();
        places = new Places();
        reader = new Reader(tape, places);
        walk = new SetWalk(places);
        merger = new Merger(walk);
        patterns = new Automaton[] {new Automaton(), new Automaton()};
        counter = new Counter();
        search = new Search();
        brokenAt = -1;
    }

    public int feed(int a, int b, int c, int d, int e) throws IndexOutOfBoundsException {
        if (tape.length > TAPE_BYTES - FEED_BYTES) {
            throw new IndexOutOfBoundsException("the tape would have too many bytes");
        }
        tape.put(a);
        tape.put(b);
        tape.put(c);
        tape.put(d);
        tape.put(e);
        return tape.length;
    }

    public int end(int n) throws IllegalArgumentException {
        if (n < 0 || n > tape.length) {
            throw new IllegalArgumentException("the tape has no such length");
        }
        tape.length = n;
        return n;
    }

    public int set(int which) throws IllegalArgumentException, UnsupportedOperationException, IndexOutOfBoundsException {
        boolean known = isPattern(which);
        brokenAt = known ? reader.readTape() : -1;
        tape.length = 0;
        if (!known) {
            throw new IllegalArgumentException("there is no such pattern");
        }
        if (brokenAt >= 0) {
            throw new UnsupportedOperationException("the pattern is broken");
        }
        if (!walk.visitAll() || !merger.mergeAll()) {
            throw new IndexOutOfBoundsException("the pattern is beyond a limit");
        }
        merger.fill(patterns[which], places.whole.skippable);
        return patterns[which].liveStates();
    }

    public boolean empty(int which) throws IllegalArgumentException {
        if (!isPattern(which)) {
            throw new IllegalArgumentException("there is no such pattern");
        }
        return patterns[which].hasEmptyText;
    }

    public boolean fits(int which) throws IllegalArgumentException {
        boolean known = isPattern(which);
        boolean answer = known && patterns[which].hasText(tape);
        tape.length = 0;
        if (!known) {
            throw new IllegalArgumentException("there is no such pattern");
        }
        return answer;
    }

    public int first(int kind) throws IllegalArgumentException {
        if (kind < 0 || kind >= KINDS_OF_TEXT) {
            throw new IllegalArgumentException("there is no such kind of text");
        }
        return search.find(patterns[0], patterns[1], kind);
    }

    public int octet(int i) throws NoSuchElementException {
        if (i < 0 || i >= search.length) {
            throw new NoSuchElementException("the text has no such byte");
        }
        return search.text[i];
    }

    public long count(int which, int n) throws IllegalArgumentException {
        if (!isPattern(which)) {
            throw new IllegalArgumentException("there is no such pattern");
        }
        if (n < 0 || n > LONGEST_COUNTED) {
            throw new IllegalArgumentException("texts of this length are not counted");
        }
        return counter.textsOf(patterns[which], n);
    }

    public int place() {
        return brokenAt;
    }

    private static boolean isPattern(int which) {
        return which == 0 || which == 1;
    }

    /**
     * A row of at least so many numbers. A new one is twice as long as the old, so that however often
     * a need grows, all rows ever made for it stay within a few times the greatest need.
     */
    private static int[] rowFor(int need, int[] row) {
        return row.length >= need ? row : new int[Math.max(need, 2 * row.length)];
    }

    private static boolean hasBit(long[] rows, int start, int bit) {
        return (rows[start + (bit >> 6)] >>> (bit & 63) & 1L) != 0;
    }

    private static void addBit(long[] rows, int start, int bit) {
        rows[start + (bit >> 6)] |= 1L << (bit & 63);
    }

    private static void addAll(long[] rows, int start, long[] others) {
        for (int w = 0; w < WORDS; w++) {
            rows[start + w] |= others[w];
        }
    }

    private static boolean sameRow(long[] rows, int start, long[] others, int otherStart) {
        for (int w = 0; w < WORDS; w++) {
            if (rows[start + w] != others[otherStart + w]) {
                return false;
            }
        }
        return true;
    }

    /** The bytes that have come and wait to be read. */
    private static final class Tape {
        private final byte[] bytes = new byte[TAPE_BYTES];
        private int length;

        private void put(int fourBytes) {
            for (int shift = 24; shift >= 0; shift -= 8) {
                if (length < TAPE_BYTES) {
                    bytes[length] = (byte) (fourBytes >>> shift);
                    length++;
                }
            }
        }

        /** The byte 0 .. 255, or -1 behind the end: no byte of a pattern, so that it can't stand anywhere. */
        private int byteAt(int i) {
            return i >= 0 && i < length ? bytes[i] & 255 : -1;
        }
    }

    /** With which places the texts of a part of a pattern begin and end, and whether the empty one is among them. */
    private static final class Ends {
        private final long[] heads = new long[WORDS];
        private final long[] tails = new long[WORDS];
        private boolean skippable;

        private void becomeNoText() {
            Arrays.fill(heads, 0L);
            Arrays.fill(tails, 0L);
            skippable = false;
        }

        private void becomeEmptyText() {
            becomeNoText();
            skippable = true;
        }

        private void becomePlace(int p) {
            becomeNoText();
            addBit(heads, 0, p);
            addBit(tails, 0, p);
        }

        private void become(Ends other) {
            System.arraycopy(other.heads, 0, heads, 0, WORDS);
            System.arraycopy(other.tails, 0, tails, 0, WORDS);
            skippable = other.skippable;
        }

        private void addChoice(Ends other) {
            addAll(heads, 0, other.heads);
            addAll(tails, 0, other.tails);
            skippable = skippable || other.skippable;
        }

        private void append(Ends next) {
            if (skippable) {
                addAll(heads, 0, next.heads);
            }
            if (!next.skippable) {
                Arrays.fill(tails, 0L);
            }
            addAll(tails, 0, next.tails);
            skippable = skippable && next.skippable;
        }
    }

    /** The CHARACTERS and CLASSES of a pattern: which bytes each takes, and which may come after which. */
    private static final class Places {
        private final long[] takers = new long[BYTES * WORDS];
        private final long[] followers = new long[MOST_PLACES * WORDS];
        private final Ends whole = new Ends();
        private int total;

        private void clear() {
            Arrays.fill(takers, 0L);
            total = 0;
        }

        private boolean isFull() {
            return total >= MOST_PLACES;
        }

        /** A new place for the bytes whose bits are set; to be called only while there is room. */
        private int add(long low, long high) {
            int p = total;
            total++;
            Arrays.fill(followers, p * WORDS, (p + 1) * WORDS, 0L);
            for (int b = 0; b < BYTES; b++) {
                if (((b < 64 ? low : high) >>> (b & 63) & 1L) != 0) {
                    addBit(takers, b * WORDS, p);
                }
            }
            return p;
        }

        private void link(long[] from, long[] to) {
            for (int p = 0; p < total; p++) {
                if (hasBit(from, 0, p)) {
                    addAll(followers, p * WORDS, to);
                }
            }
        }
    }

    /** Reads the tape as a pattern into its places. */
    private static final class Reader {
        private static final String BARRED = "/|*+?()[.";
        private static final String BARRED_IN_CLASS = "/]-";
        private static final String ESCAPED = "/\\|*+?()[.]-^";

        private final Tape tape;
        private final Places places;
        private final Ends[] choices = new Ends[MOST_OPEN + 1];
        private final Ends[] sequences = new Ends[MOST_OPEN + 1];
        private final Ends atom = new Ends();
        private int at;
        private int depth;
        private int broken;
        private long low;
        private long high;

        private Reader(Tape tape, Places places) {
            this.tape = tape;
            this.places = places;
        }

        /** Answers the place at which the tape is broken, -1 if it is a pattern. */
        private int readTape() {
            places.clear();
            at = 0;
            broken = -1;
            depth = 0;
            beginLevel();
            for (int step = 0; step < TAPE_BYTES && at < tape.length && broken < 0; step++) {
                readNext();
            }
            if (broken < 0 && depth > 0) {
                broken = at;
            }
            here(choices).addChoice(here(sequences));
            places.whole.become(here(choices));
            return broken;
        }

        /** The open level's part; it is made when a pattern first opens so many, which few do. */
        private Ends here(Ends[] levels) {
            if (levels[depth] == null) {
                levels[depth] = new Ends();
            }
            return levels[depth];
        }

        private void beginLevel() {
            here(choices).becomeNoText();
            here(sequences).becomeEmptyText();
        }

        private void readNext() {
            int c = tape.byteAt(at);
            if (c == '(') {
                openGroup();
            } else if (c == ')') {
                closeGroup();
            } else if (c == '|') {
                nextChoice();
            } else if (places.isFull()) {
                broken = at;
            } else {
                low = 0L;
                high = 0L;
                if (c == '[') {
                    readClass();
                } else if (c == '.') {
                    readAny();
                } else {
                    readCharacter();
                }
                addPlace();
            }
        }

        private void openGroup() {
            if (depth >= MOST_OPEN) {
                broken = at;
                return;
            }
            at++;
            depth++;
            beginLevel();
        }

        private void closeGroup() {
            if (depth <= 0) {
                broken = at;
                return;
            }
            at++;
            here(choices).addChoice(here(sequences));
            atom.become(here(choices));
            depth--;
            repeatAndAppend();
        }

        private void nextChoice() {
            at++;
            here(choices).addChoice(here(sequences));
            here(sequences).becomeEmptyText();
        }

        private void readAny() {
            at++;
            low = ~(1L << NEW_LINE);
            high = ~0L;
        }

        private void readCharacter() {
            int symbol = readSymbol(BARRED);
            include(symbol, symbol);
        }

        private void addPlace() {
            if (broken < 0) {
                atom.becomePlace(places.add(low, high));
                repeatAndAppend();
            }
        }

        /** However many signs stand behind an atom, it is linked to itself once: more changes nothing. */
        private void repeatAndAppend() {
            boolean again = false;
            while (at < tape.length && isRepeat(tape.byteAt(at))) {
                again = again || tape.byteAt(at) != '?';
                atom.skippable = atom.skippable || tape.byteAt(at) != '+';
                at++;
            }
            if (again) {
                places.link(atom.tails, atom.heads);
            }
            places.link(here(sequences).tails, atom.heads);
            here(sequences).append(atom);
        }

        private static boolean isRepeat(int c) {
            return c == '*' || c == '+' || c == '?';
        }

        private void readClass() {
            at++;
            boolean others = tape.byteAt(at) == '^';
            if (others) {
                at++;
            }
            readPart();
            for (int step = 0; step < TAPE_BYTES && broken < 0 && tape.byteAt(at) != ']'; step++) {
                readPart();
            }
            at++;
            if (others) {
                low = ~low;
                high = ~high;
            }
        }

        private void readPart() {
            int from = readSymbol(BARRED_IN_CLASS);
            int to = from;
            if (broken < 0 && tape.byteAt(at) == '-') {
                at++;
                int second = at;
                to = readSymbol(BARRED_IN_CLASS);
                if (broken < 0 && to < from) {
                    broken = second;
                }
            }
            include(from, to);
        }

        /** One byte, plain or behind a backslash; what stands in its way breaks the pattern. */
        private int readSymbol(String barred) {
            int c = tape.byteAt(at);
            if (c == '\\') {
                at++;
                c = escaped(tape.byteAt(at));
            } else if (c < 32 || c > 126 || barred.indexOf((char) c) >= 0) {
                c = -1;
            }
            if (c < 0) {
                broken = at;
            } else {
                at++;
            }
            return c;
        }

        private static int escaped(int c) {
            switch (c) {
                case 'n':
                    return NEW_LINE;
                case 't':
                    return 9;
                case 'r':
                    return 13;
                default:
                    return c >= 0 && ESCAPED.indexOf((char) c) >= 0 ? c : -1;
            }
        }

        private void include(int from, int to) {
            for (int b = Math.max(from, 0); b <= to && b < BYTES; b++) {
                if (b < 64) {
                    low |= 1L << b;
                } else {
                    high |= 1L << (b - 64);
                }
            }
        }
    }

    /** The bytes sorted into kinds: those of one kind are taken by the same places. */
    private static final class Kinds {
        private final int[] kindOf = new int[BYTES];
        private final int[] leastOf = new int[BYTES];
        private final int[] sizeOf = new int[BYTES];
        private int total;

        private void sort(long[] takers) {
            total = 0;
            for (int b = 0; b < BYTES; b++) {
                int k = 0;
                while (k < total && !sameRow(takers, b * WORDS, takers, leastOf[k] * WORDS)) {
                    k++;
                }
                if (k == total) {
                    leastOf[k] = b;
                    sizeOf[k] = 0;
                    total++;
                }
                kindOf[b] = k;
                sizeOf[k]++;
            }
        }
    }

    /**
     * All sets of places at which a text that is not empty may have ended, found from the start on.
     * State DEAD is the set of none, state START the empty text's, the others are the sets as they come.
     */
    private static final class SetWalk {
        private static final int SLOTS = 1024;
        private static final int MOST = MOST_SETS + 2;

        private final Places places;
        private final Kinds kinds = new Kinds();
        private final long[] sets = new long[MOST * WORDS];
        private final int[] slots = new int[SLOTS];
        private final long[] reach = new long[WORDS];
        private final long[] goal = new long[WORDS];
        private int[] steps = new int[0];
        private int states;
        private boolean noneReached;
        private boolean crowded;

        private SetWalk(Places places) {
            this.places = places;
        }

        /** Whether the sets stay within their limit; only then the states are whole. */
        private boolean visitAll() {
            begin();
            for (int s = START; s < states && s < MOST && !crowded; s++) {
                findReach(s);
                visitFrom(s);
            }
            return !crowded;
        }

        private void begin() {
            kinds.sort(places.takers);
            steps = rowFor(MOST * kinds.total, steps);
            Arrays.fill(steps, 0, kinds.total, DEAD);
            Arrays.fill(slots, DEAD);
            states = 2;
            noneReached = false;
            crowded = false;
        }

        private void findReach(int s) {
            Arrays.fill(reach, 0L);
            if (s == START) {
                addAll(reach, 0, places.whole.heads);
                return;
            }
            for (int p = 0; p < places.total; p++) {
                if (hasBit(sets, s * WORDS, p)) {
                    addFollowers(p);
                }
            }
        }

        private void addFollowers(int p) {
            for (int w = 0; w < WORDS; w++) {
                reach[w] |= places.followers[p * WORDS + w];
            }
        }

        private void visitFrom(int s) {
            for (int k = 0; k < kinds.total && !crowded; k++) {
                long any = 0L;
                for (int w = 0; w < WORDS; w++) {
                    goal[w] = reach[w] & places.takers[kinds.leastOf[k] * WORDS + w];
                    any |= goal[w];
                }
                steps[s * kinds.total + k] = any == 0L ? DEAD : stateOfGoal();
                noneReached = noneReached || any == 0L;
                crowded = crowded || states - 2 + (noneReached ? 1 : 0) > MOST_SETS;
            }
        }

        private int stateOfGoal() {
            int slot = slotOfGoal();
            for (int probe = 0; probe < SLOTS; probe++) {
                int s = slots[slot];
                if (s == DEAD) {
                    return newState(slot);
                }
                if (sameRow(sets, s * WORDS, goal, 0)) {
                    return s;
                }
                slot = slot + 1 & SLOTS - 1;
            }
            return DEAD;
        }

        private int slotOfGoal() {
            long mix = 0L;
            for (int w = 0; w < WORDS; w++) {
                mix = (mix ^ goal[w]) * 0x9E3779B97F4A7C15L;
                mix ^= mix >>> 32;
            }
            return (int) mix & SLOTS - 1;
        }

        private int newState(int slot) {
            if (states >= MOST) {
                crowded = true;
                return DEAD;
            }
            int s = states;
            states++;
            slots[slot] = s;
            System.arraycopy(goal, 0, sets, s * WORDS, WORDS);
            return s;
        }

        private int stepOf(int s, int kind) {
            return steps[s * kinds.total + kind];
        }

        /** Never so for START, whose row stays without places: the empty text is left out of the automaton. */
        private boolean accepts(int s) {
            for (int w = 0; w < WORDS; w++) {
                if ((sets[s * WORDS + w] & places.whole.tails[w]) != 0L) {
                    return true;
                }
            }
            return false;
        }
    }

    /**
     * Merges the states of a walk that no text tells apart, by splitting blocks of them until none splits.
     * A kind of bytes is pending while a block may still have states that go to different blocks with it.
     */
    private static final class Merger {
        private static final int MOST_BLOCKS = MOST_STATES + 1;
        private static final int KIND_WORDS = 2;

        private final SetWalk walk;
        private final int[] blockOf = new int[SetWalk.MOST];
        private final int[] newBlockOf = new int[SetWalk.MOST];
        private final int[] aimOf = new int[MOST_BLOCKS + 1];
        private final int[] nextPart = new int[MOST_BLOCKS + 1];
        private final long[] kindsInto = new long[SetWalk.MOST * KIND_WORDS];
        private final long[] pending = new long[KIND_WORDS];
        private int blocks;

        private Merger(SetWalk walk) {
            this.walk = walk;
        }

        /** Whether the blocks stay within the limit of states; only then they are whole. */
        private boolean mergeAll() {
            beginBlocks();
            findKindsInto();
            Arrays.fill(pending, ~0L);
            boolean more = true;
            for (int round = 0; more && round < SetWalk.MOST; round++) {
                more = false;
                for (int k = 0; k < walk.kinds.total && blocks <= MOST_BLOCKS; k++) {
                    if (hasBit(pending, 0, k)) {
                        splitBy(k);
                        more = true;
                    }
                }
            }
            return blocks <= MOST_BLOCKS;
        }

        /** Every place leads to an end of the pattern, so only the set of none, or a start without places, is dead. */
        private void beginBlocks() {
            boolean startLives = walk.states > 2;
            blocks = startLives ? 3 : 1;
            blockOf[DEAD] = DEAD;
            blockOf[START] = startLives ? 1 : DEAD;
            for (int s = 2; s < walk.states; s++) {
                blockOf[s] = walk.accepts(s) ? 2 : 1;
            }
        }

        private void findKindsInto() {
            Arrays.fill(kindsInto, 0L);
            for (int s = 0; s < walk.states; s++) {
                for (int k = 0; k < walk.kinds.total; k++) {
                    addBit(kindsInto, walk.stepOf(s, k) * KIND_WORDS, k);
                }
            }
        }

        private void splitBy(int kind) {
            pending[kind >> 6] &= ~(1L << (kind & 63));
            Arrays.fill(aimOf, 0, blocks, -1);
            Arrays.fill(nextPart, 0, blocks, -1);
            for (int s = 0; s < walk.states && blocks <= MOST_BLOCKS; s++) {
                newBlockOf[s] = partOf(blockOf[s], blockOf[walk.stepOf(s, kind)]);
            }
            for (int s = 0; s < walk.states && blocks <= MOST_BLOCKS; s++) {
                moveToNewBlock(s);
            }
        }

        /** A state that moves may tell those apart that go to it, and makes all kinds into it pending. */
        private void moveToNewBlock(int s) {
            if (blockOf[s] != newBlockOf[s]) {
                blockOf[s] = newBlockOf[s];
                for (int w = 0; w < KIND_WORDS; w++) {
                    pending[w] |= kindsInto[s * KIND_WORDS + w];
                }
            }
        }

        /** Which part of a block goes to the aim: the block itself keeps its first state's, others become new blocks. */
        private int partOf(int block, int aim) {
            if (aimOf[block] < 0) {
                aimOf[block] = aim;
            }
            int part = block;
            for (int i = 0; i < blocks && aimOf[part] != aim && nextPart[part] >= 0; i++) {
                part = nextPart[part];
            }
            if (aimOf[part] == aim) {
                return part;
            }
            nextPart[part] = blocks;
            aimOf[blocks] = aim;
            nextPart[blocks] = -1;
            blocks++;
            return blocks - 1;
        }

        private void fill(Automaton target, boolean hasEmptyText) {
            int kinds = walk.kinds.total;
            target.reshape(walk.kinds, blocks);
            target.start = blockOf[START];
            target.hasEmptyText = hasEmptyText;
            for (int s = 0; s < walk.states; s++) {
                int block = blockOf[s];
                target.accepting[block] = walk.accepts(s);
                for (int k = 0; k < kinds; k++) {
                    target.steps[block * kinds + k] = blockOf[walk.stepOf(s, k)];
                }
            }
        }
    }

    /** A pattern's least automaton for the texts that are not empty; a new one is the empty pattern's. */
    private static final class Automaton {
        private final int[] kindOf = new int[BYTES];
        private final int[] sizeOf = new int[BYTES];
        private final boolean[] accepting = new boolean[Merger.MOST_BLOCKS];
        private int[] steps = new int[1];
        private int kinds = 1;
        private int states = 1;
        private int start = DEAD;
        private boolean hasEmptyText = true;

        private Automaton() {
            sizeOf[0] = BYTES;
        }

        private void reshape(Kinds newKinds, int newStates) {
            System.arraycopy(newKinds.kindOf, 0, kindOf, 0, BYTES);
            System.arraycopy(newKinds.sizeOf, 0, sizeOf, 0, BYTES);
            kinds = newKinds.total;
            states = newStates;
            steps = rowFor(states * kinds, steps);
        }

        private int liveStates() {
            return states - 1;
        }

        private int stepOf(int state, int b) {
            return steps[state * kinds + kindOf[b]];
        }

        private boolean hasText(Tape tape) {
            if (tape.length == 0) {
                return hasEmptyText;
            }
            int state = start;
            for (int i = 0; i < tape.length; i++) {
                int b = tape.byteAt(i);
                if (b < 0 || b >= BYTES) {
                    return false;
                }
                state = stepOf(state, b);
            }
            return accepting[state];
        }
    }

    /** Counts texts by how many of one length lead to each state. */
    private static final class Counter {
        private long[] ways = new long[Merger.MOST_BLOCKS];
        private long[] nextWays = new long[Merger.MOST_BLOCKS];

        private long textsOf(Automaton automaton, int length) {
            if (length == 0) {
                return automaton.hasEmptyText ? 1L : 0L;
            }
            Arrays.fill(ways, 0L);
            ways[automaton.start] = 1L;
            for (int i = 0; i < length; i++) {
                lengthen(automaton);
            }
            long texts = 0L;
            for (int s = 0; s < automaton.states; s++) {
                texts += automaton.accepting[s] ? ways[s] : 0L;
            }
            return texts;
        }

        private void lengthen(Automaton automaton) {
            Arrays.fill(nextWays, 0L);
            for (int s = 0; s < automaton.states; s++) {
                for (int k = 0; k < automaton.kinds && ways[s] != 0L; k++) {
                    nextWays[automaton.steps[s * automaton.kinds + k]] += ways[s] * automaton.sizeOf[k];
                }
            }
            long[] old = ways;
            ways = nextWays;
            nextWays = old;
        }
    }

    /**
     * Looks for THE TEXT among the pairs of states that both automata come to with one text. The pairs
     * are found in the order of their first texts, so the first pair that is wanted has the FIRST one.
     */
    private static final class Search {
        private static final int PAIR_SHIFT = 8;
        private static final int STATE_MASK = 255;
        private static final int BYTE_SHIFT = 7;

        private final int[] leastBytes = new int[BYTES];
        private int kinds;
        private int[] pairs = new int[0];
        private int[] origins = new int[0];
        private long[] seen = new long[0];
        private int found;
        private byte[] text = new byte[0];
        private int length;

        /** The length of THE TEXT, -1 if there is none. */
        private int find(Automaton a, Automaton b, int kind) {
            length = 0;
            if (isWanted(kind, a.hasEmptyText, b.hasEmptyText)) {
                return 0;
            }
            joinKinds(a, b);
            begin(a, b);
            int last = -1;
            for (int i = 0; i < found && i < pairs.length && last < 0; i++) {
                last = visitFrom(i, a, b, kind);
            }
            if (last < 0) {
                return -1;
            }
            writeText(last);
            return length;
        }

        private static boolean isWanted(int kind, boolean inFirst, boolean inSecond) {
            switch (kind) {
                case 0:
                    return inFirst != inSecond;
                case 1:
                    return inFirst && !inSecond;
                case 2:
                    return inSecond && !inFirst;
                case 3:
                    return inFirst && inSecond;
                default:
                    return !inFirst && !inSecond;
            }
        }

        private void joinKinds(Automaton a, Automaton b) {
            kinds = 0;
            for (int c = 0; c < BYTES; c++) {
                int k = 0;
                while (k < kinds && (a.kindOf[leastBytes[k]] != a.kindOf[c] || b.kindOf[leastBytes[k]] != b.kindOf[c])) {
                    k++;
                }
                if (k == kinds) {
                    leastBytes[k] = c;
                    kinds++;
                }
            }
        }

        /** The starting pair is not seen yet: a text that is not empty may come back to it and be THE TEXT. */
        private void begin(Automaton a, Automaton b) {
            int most = a.states * b.states + 1;
            pairs = rowFor(most, pairs);
            origins = rowFor(most, origins);
            int seenWords = a.states << PAIR_SHIFT >> 6;
            if (seen.length < seenWords) {
                seen = new long[Math.max(seenWords, 2 * seen.length)];
            }
            Arrays.fill(seen, 0L);
            pairs[0] = a.start << PAIR_SHIFT | b.start;
            origins[0] = 0;
            found = 1;
        }

        /** Answers where the first wanted pair is that follows on pair i, -1 if none does. */
        private int visitFrom(int i, Automaton a, Automaton b, int kind) {
            int stateA = pairs[i] >> PAIR_SHIFT;
            int stateB = pairs[i] & STATE_MASK;
            for (int k = 0; k < kinds; k++) {
                int c = leastBytes[k];
                int nextA = a.stepOf(stateA, c);
                int nextB = b.stepOf(stateB, c);
                int pair = nextA << PAIR_SHIFT | nextB;
                if (!hasBit(seen, 0, pair) && found < pairs.length) {
                    addBit(seen, 0, pair);
                    pairs[found] = pair;
                    origins[found] = i << BYTE_SHIFT | c;
                    found++;
                    if (isWanted(kind, a.accepting[nextA], b.accepting[nextB])) {
                        return found - 1;
                    }
                }
            }
            return -1;
        }

        private void writeText(int last) {
            for (int i = last; i > 0 && length < found; i = origins[i] >> BYTE_SHIFT) {
                length++;
            }
            if (text.length < length) {
                text = new byte[Math.max(length, 2 * text.length)];
            }
            int i = last;
            for (int at = length - 1; at >= 0; at--) {
                text[at] = (byte) (origins[i] & BYTES - 1);
                i = origins[i] >> BYTE_SHIFT;
            }
        }
    }
}
