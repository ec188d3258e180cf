/**
 * Three machines that do the same: a tape machine, the tag system that is made of it, and the
 * cyclic system that is made of a tag system.
 */
public final class TagWorkshop {
    public static final int NONE = -1, LIMIT = -2;

    private static final int GOES_ON = 1, HALTED = 0;
    private static final int NO_LETTERS = 0, NO_STATES = 0;
    private static final int MOST_STEPS = 20000, MOST_LOCK_STEPS = 200;

    private final TapeMachine machine;
    private final TagSystem tagSystem;
    private final CyclicSystem cyclicSystem;
    private final Code code;

    public TagWorkshop() {
        machine = new TapeMachine();
        tagSystem = new TagSystem();
        cyclicSystem = new CyclicSystem();
        code = new Code();
    }

    public boolean rule(int state, int symbol, int write, int move, int next) {
        return machine.setRule(state, symbol, write, move, next);
    }

    public boolean tape(int state, int symbol, int left, int right) {
        return machine.setConfiguration(state, symbol, left, right);
    }

    public int compileTag() {
        if (!machine.hasAllRules()) {
            return NO_LETTERS;
        }
        TagMaker.make(tagSystem, machine);
        Code.write(tagSystem, machine);
        cyclicSystem.remove();
        return tagSystem.letters;
    }

    public boolean ownTag(int letters) {
        if (letters < 1 || letters > TagSystem.MOST_LETTERS) {
            return false;
        }
        tagSystem.begin(letters, NO_STATES);
        cyclicSystem.remove();
        return true;
    }

    public boolean extend(int letter, int v) {
        return tagSystem.addToProduction(letter, v);
    }

    public int spoil(int letter, int i, int v) {
        return tagSystem.replaceInProduction(letter, i, v);
    }

    public boolean halts(int letter, boolean on) {
        return tagSystem.setHalting(letter, on);
    }

    public boolean put(int v) {
        if (!tagSystem.hasLetter(v) || tagSystem.size >= TagSystem.MOST_IN_WORD) {
            return false;
        }
        tagSystem.append(v);
        return true;
    }

    public int production(int letter, int i) {
        return tagSystem.productionLetter(letter, i);
    }

    public int compileCyclic() {
        if (tagSystem.letters == NO_LETTERS) {
            return 0;
        }
        cyclicSystem.makeOf(tagSystem);
        return cyclicSystem.appendants();
    }

    public int appendant(int k, int i) {
        return cyclicSystem.appendantBit(k, i);
    }

    public int stepTape(int n) {
        return machine.makeSteps(n);
    }

    public int stepTag(int n) {
        return tagSystem.makeSteps(n);
    }

    public int stepCyclic(int n) {
        return cyclicSystem.makeSteps(n);
    }

    public int tapeNow(int what) {
        switch (what) {
            case 0: return machine.state;
            case 1: return machine.symbol;
            case 2: return machine.left;
            case 3: return machine.right;
            case 4: return machine.canGoOn();
            default: return NONE;
        }
    }

    public int tagNow(int what) {
        switch (what) {
            case 0: return tagSystem.letters;
            case 1: return tagSystem.size;
            case 2: return tagSystem.canGoOn();
            default: return NONE;
        }
    }

    public int cyclicNow(int what) {
        switch (what) {
            case 0: return cyclicSystem.appendants();
            case 1: return cyclicSystem.bits();
            case 2: return cyclicSystem.canGoOn();
            case 3: return cyclicSystem.turn;
            default: return NONE;
        }
    }

    public int tagLetter(int i) {
        return tagSystem.wordLetter(i);
    }

    public int cyclicBit(int i) {
        return cyclicSystem.wordBit(i);
    }

    public int decodeTag(int what) {
        if (!code.read(tagSystem)) {
            return NONE;
        }
        switch (what) {
            case 0: return code.state;
            case 1: return code.symbol;
            case 2: return code.left;
            case 3: return code.right;
            default: return NONE;
        }
    }

    public int decodeCyclic(int i) {
        return cyclicSystem.borderLetter(i);
    }

    public int nextBorder() {
        for (int done = 1; done <= MOST_STEPS; done++) {
            if (tagSystem.canGoOn() != GOES_ON) {
                return 0;
            }
            tagSystem.step();
            if (code.read(tagSystem)) {
                return done;
            }
        }
        return 0;
    }

    public int roundCost(int state, int symbol, int left, int right) {
        if (!TapeMachine.isConfiguration(state, symbol, left, right)) {
            return NONE;
        }
        return machine.tagStepsOf(state, symbol, left, right);
    }

    public int lockStep(int n) {
        // A system of the user's has letters for no state, so this refuses it as well.
        if (machine.state > tagSystem.states) {
            return NONE;
        }
        Code.write(tagSystem, machine);
        int most = within(n, MOST_LOCK_STEPS);
        for (int step = 0; step < most; step++) {
            int tapeGoes = machine.canGoOn();
            if (tapeGoes == LIMIT) {
                return LIMIT;
            }
            if (tapeGoes == HALTED) {
                return tagSystem.canGoOn() == HALTED ? 0 : 1 + step;
            }
            machine.step();
            if (!tagFollowsTape()) {
                return 1 + step;
            }
        }
        return 0;
    }

    private static int within(int n, int most) {
        return Math.max(0, Math.min(n, most));
    }

    private boolean tagFollowsTape() {
        return nextBorder() > 0 && code.isOf(machine);
    }

    private abstract static class Machine {
        /** GOES_ON, HALTED or LIMIT. */
        abstract int canGoOn();

        /** Only for a machine that can go on. */
        abstract void step();

        int makeSteps(int n) {
            int most = within(n, MOST_STEPS);
            for (int done = 0; done < most; done++) {
                if (canGoOn() != GOES_ON) {
                    return done;
                }
                step();
            }
            return most;
        }
    }

    /** The rules and the configuration. */
    private static final class TapeMachine extends Machine {
        static final int STATES = 8;
        static final int TO_RIGHT = 1;
        private static final int MISSING = -1, HALT = 0;
        private static final int MOST_CELLS = 255;

        private final int[] writes = new int[2 * STATES];
        private final int[] moves = new int[2 * STATES];
        private final int[] nexts = new int[2 * STATES];
        int state = 1;
        int symbol = 0;
        int left = 0;
        int right = 0;

        TapeMachine() {
            for (int at = 0; at < nexts.length; at++) {
                nexts[at] = MISSING;
            }
        }

        private static boolean isState(int q) {
            return q >= 1 && q <= STATES;
        }

        private static boolean isBit(int v) {
            return v == 0 || v == 1;
        }

        private static boolean isCells(int v) {
            return v >= 0 && v <= MOST_CELLS;
        }

        static boolean isConfiguration(int q, int s, int l, int r) {
            return isState(q) && isBit(s) && isCells(l) && isCells(r);
        }

        private static int place(int q, int s) {
            return 2 * (q - 1) + s;
        }

        boolean setRule(int q, int s, int write, int move, int next) {
            if (!isState(q) || !isBit(s) || !isBit(write) || !isBit(move)) {
                return false;
            }
            if (next != HALT && !isState(next)) {
                return false;
            }
            int at = place(q, s);
            writes[at] = write;
            moves[at] = move;
            nexts[at] = next;
            return true;
        }

        boolean setConfiguration(int q, int s, int l, int r) {
            if (!isConfiguration(q, s, l, r)) {
                return false;
            }
            state = q;
            symbol = s;
            left = l;
            right = r;
            return true;
        }

        /** Whether the rule is there and does not halt. */
        boolean hasStep(int q, int s) {
            return isState(nexts[place(q, s)]);
        }

        int writeOf(int q, int s) {
            return writes[place(q, s)];
        }

        int moveOf(int q, int s) {
            return moves[place(q, s)];
        }

        int nextOf(int q, int s) {
            return nexts[place(q, s)];
        }

        @Override
        int canGoOn() {
            if (!hasStep(state, symbol)) {
                return HALTED;
            }
            int doubled = moveOf(state, symbol) == TO_RIGHT ? left : right;
            return 2 * doubled + writeOf(state, symbol) > MOST_CELLS ? LIMIT : GOES_ON;
        }

        @Override
        void step() {
            int at = place(state, symbol);
            if (moves[at] == TO_RIGHT) {
                left = 2 * left + writes[at];
                symbol = right % 2;
                right = right / 2;
            } else {
                right = 2 * right + writes[at];
                symbol = left % 2;
                left = left / 2;
            }
            state = nexts[at];
        }

        int tagStepsOf(int q, int s, int l, int r) {
            if (!hasStep(q, s)) {
                return NONE;
            }
            boolean toRight = moveOf(q, s) == TO_RIGHT;
            int doubled = toRight ? l : r;
            int half = (toRight ? r : l) / 2;
            return l + r + 2 + 2 * (2 * doubled + writeOf(q, s) + 2 + half);
        }

        /** Whether no rule is missing of a state that the machine is in or can be sent to. */
        boolean hasAllRules() {
            if (!hasBothRules(state)) {
                return false;
            }
            for (int at = 0; at < nexts.length; at++) {
                if (isState(nexts[at]) && !hasBothRules(nexts[at])) {
                    return false;
                }
            }
            return true;
        }

        private boolean hasBothRules(int q) {
            return nexts[place(q, 0)] != MISSING && nexts[place(q, 1)] != MISSING;
        }

        int greatestState() {
            int greatest = 0;
            for (int at = 0; at < nexts.length; at++) {
                if (nexts[at] != MISSING) {
                    greatest = Math.max(greatest, Math.max(at / 2 + 1, nexts[at]));
                }
            }
            return greatest;
        }
    }

    /** Letters with their productions, and a word. */
    private static final class TagSystem extends Machine {
        static final int MOST_LETTERS = 300, MOST_IN_PRODUCTION = 12, MOST_IN_WORD = 4000;
        // In the midst of a cyclic round two blocks more than the limit may stand in the word,
        // and a power of two lets a mask bring every place back into the ring.
        private static final int RING = 4096;
        // A production is packed, as the room counts elements and not their bits.
        private static final int LETTER_BITS = 10, PACKED = 6, PACKS = MOST_IN_PRODUCTION / PACKED;
        private static final long LETTER_MASK = (1L << LETTER_BITS) - 1;

        private final long[] packs = new long[MOST_LETTERS * PACKS];
        private final int[] sizes = new int[MOST_LETTERS];
        private final boolean[] halting = new boolean[MOST_LETTERS];
        private final int[] word = new int[RING];
        private int front = 0;
        int size = 0;
        int letters = NO_LETTERS;
        /** How many states a made system has letters for; a system of the user's has none. */
        int states = NO_STATES;

        void begin(int newLetters, int newStates) {
            letters = newLetters;
            states = newStates;
            for (int v = 0; v < letters; v++) {
                sizes[v] = 0;
                halting[v] = false;
            }
            clearWord();
        }

        void copyFrom(TagSystem other) {
            letters = other.letters;
            for (int v = 0; v < letters; v++) {
                sizes[v] = other.sizes[v];
                halting[v] = other.halting[v];
            }
            System.arraycopy(other.packs, 0, packs, 0, packs.length);
            System.arraycopy(other.word, 0, word, 0, word.length);
            front = other.front;
            size = other.size;
        }

        boolean hasLetter(int v) {
            return v >= 0 && v < letters;
        }

        private int unpack(int letter, int i) {
            long pack = packs[letter * PACKS + i / PACKED];
            return (int) (pack >> LETTER_BITS * (i % PACKED) & LETTER_MASK);
        }

        private void pack(int letter, int i, int v) {
            int at = letter * PACKS + i / PACKED;
            int shift = LETTER_BITS * (i % PACKED);
            packs[at] = packs[at] & ~(LETTER_MASK << shift) | (long) v << shift;
        }

        int productionSize(int letter) {
            return hasLetter(letter) ? sizes[letter] : 0;
        }

        int productionLetter(int letter, int i) {
            return i >= 0 && i < productionSize(letter) ? unpack(letter, i) : NONE;
        }

        boolean addToProduction(int letter, int v) {
            if (!hasLetter(letter) || !hasLetter(v) || sizes[letter] >= MOST_IN_PRODUCTION) {
                return false;
            }
            pack(letter, sizes[letter], v);
            sizes[letter]++;
            return true;
        }

        int replaceInProduction(int letter, int i, int v) {
            int before = productionLetter(letter, i);
            if (before == NONE || !hasLetter(v)) {
                return NONE;
            }
            pack(letter, i, v);
            return before;
        }

        boolean setHalting(int letter, boolean on) {
            if (!hasLetter(letter)) {
                return false;
            }
            halting[letter] = on;
            return true;
        }

        void clearWord() {
            front = 0;
            size = 0;
        }

        void append(int v) {
            word[front + size & RING - 1] = v;
            size++;
        }

        void appendProduction(int letter) {
            int count = productionSize(letter);
            for (int i = 0; i < count; i++) {
                append(unpack(letter, i));
            }
        }

        void takeTwo() {
            front = front + 2 & RING - 1;
            size -= 2;
        }

        int wordLetter(int i) {
            return i >= 0 && i < size ? word[front + i & RING - 1] : NONE;
        }

        @Override
        int canGoOn() {
            if (size < 2 || halting[word[front]]) {
                return HALTED;
            }
            return size - 2 + sizes[word[front]] > MOST_IN_WORD ? LIMIT : GOES_ON;
        }

        @Override
        void step() {
            int first = word[front];
            takeTwo();
            appendProduction(first);
        }
    }

    /**
     * A system of bits. Its word is held as letters: a round takes just two whole blocks, and
     * only whole blocks are put to the end, so at a border every block is still that of a letter.
     * Within a round its first two blocks stay, less the bits that the turn says are taken.
     */
    private static final class CyclicSystem extends Machine {
        private final TagSystem blocks = new TagSystem();
        int turn = 0;

        void makeOf(TagSystem system) {
            blocks.copyFrom(system);
            turn = 0;
        }

        void remove() {
            blocks.begin(NO_LETTERS, NO_STATES);
            turn = 0;
        }

        int appendants() {
            return 2 * blocks.letters;
        }

        int bits() {
            return blocks.size * blocks.letters - turn;
        }

        private static int bitOf(int letter, int i) {
            return letter == i ? 1 : 0;
        }

        int appendantBit(int k, int i) {
            int length = blocks.letters;
            if (length == NO_LETTERS || i < 0 || i >= blocks.productionSize(k) * length) {
                return NONE;
            }
            return bitOf(blocks.productionLetter(k, i / length), i % length);
        }

        int wordBit(int i) {
            int length = blocks.letters;
            if (length == NO_LETTERS || i < 0 || i >= bits()) {
                return NONE;
            }
            int at = turn + i;
            return bitOf(blocks.wordLetter(at / length), at % length);
        }

        int borderLetter(int i) {
            return turn == 0 ? blocks.wordLetter(i) : NONE;
        }

        @Override
        int canGoOn() {
            // Two whole blocks stood at the border, so within the round there is always a bit.
            return turn == 0 ? blocks.canGoOn() : GOES_ON;
        }

        @Override
        void step() {
            // The first block's only 1 comes up in its own appendant's turn; the second block's
            // comes in the turn of an empty one.
            int first = blocks.wordLetter(0);
            if (turn == first) {
                blocks.appendProduction(first);
            }
            turn++;
            if (turn == appendants()) {
                turn = 0;
                blocks.takeTwo();
            }
        }
    }

    /** What a border says; it is kept and read into anew, so that reading makes no object. */
    private static final class Code {
        int state = 0;
        int symbol = 0;
        int left = 0;
        int right = 0;

        static void write(TagSystem system, TapeMachine machine) {
            int base = TagMaker.base(machine.state, machine.symbol);
            system.clearWord();
            writePairs(system, base + TagMaker.A, 1);
            writePairs(system, base + TagMaker.a, machine.left);
            writePairs(system, base + TagMaker.B, 1);
            writePairs(system, base + TagMaker.b, machine.right);
        }

        private static void writePairs(TagSystem system, int letter, int count) {
            for (int i = 0; i < count; i++) {
                system.append(letter);
                system.append(TagMaker.LETTER_X);
            }
        }

        /** False, leaving what was read before, when the word is no code. */
        boolean read(TagSystem system) {
            int base = system.wordLetter(0);
            if (!TagMaker.isBase(base, system.states) || system.size % 2 != 0) {
                return false;
            }
            if (!isPair(system, 0, base + TagMaker.A)) {
                return false;
            }
            int leftEnd = pairsEnd(system, 1, base + TagMaker.a);
            if (!isPair(system, leftEnd, base + TagMaker.B)) {
                return false;
            }
            int rightEnd = pairsEnd(system, leftEnd + 1, base + TagMaker.b);
            if (2 * rightEnd != system.size) {
                return false;
            }
            state = TagMaker.stateOf(base);
            symbol = TagMaker.symbolOf(base);
            left = leftEnd - 1;
            right = rightEnd - leftEnd - 1;
            return true;
        }

        /** The first pair, from one on, that is not this letter and x. */
        private static int pairsEnd(TagSystem system, int from, int letter) {
            int pairs = system.size / 2;
            for (int pair = from; pair < pairs; pair++) {
                if (!isPair(system, pair, letter)) {
                    return pair;
                }
            }
            return pairs;
        }

        private static boolean isPair(TagSystem system, int pair, int letter) {
            return system.wordLetter(2 * pair) == letter
                    && system.wordLetter(2 * pair + 1) == TagMaker.LETTER_X;
        }

        boolean isOf(TapeMachine machine) {
            return state == machine.state && symbol == machine.symbol
                    && left == machine.left && right == machine.right;
        }
    }

    /** Makes the tag system of the rules. */
    private static final class TagMaker {
        static final int LETTER_X = 0;
        // The document's names for the letters of a state and a symbol, in the document's row.
        static final int A = 0, a = 1, B = 2, b = 3, C = 4, c = 5, S = 6, s = 7,
                D1 = 8, D0 = 9, d1 = 10, d0 = 11, T1 = 12, T0 = 13, t1 = 14, t0 = 15,
                C0 = 16, c0 = 17;
        private static final int KINDS = 18;
        // Added to a name, these stand for the document's " and '.
        private static final int NEXT_0 = KINDS, NEXT_1 = 2 * KINDS;
        private static final int X = 3 * KINDS;

        // Pairs: a letter, and one that is put to the end of its production.
        private static final int[] RIGHT_PAIRS = {
            A, C, A, X,
            a, c, a, X, a, c, a, X,
            B, S, b, s,
            C, D1, C, D0, c, d1, c, d0,
            S, T1, S, T0, s, t1, s, t0,
            D1, NEXT_1 + A, D1, X, d1, NEXT_1 + a, d1, X,
            T1, NEXT_1 + B, T1, X, t1, NEXT_1 + b, t1, X,
            D0, X, D0, NEXT_0 + A, D0, X, d0, NEXT_0 + a, d0, X,
            T0, NEXT_0 + B, T0, X, t0, NEXT_0 + b, t0, X,
        };
        private static final int[] RIGHT_PAIRS_WITH_1 = {A, c, A, X};
        private static final int[] LEFT_PAIRS = {
            A, S, a, s,
            B, C, B, C0,
            b, c, b, c0, b, c, b, c0,
            S, T1, S, T0, s, t1, s, t0,
            C, D1, C, X, c, d1, c, X,
            C0, X, C0, D0, C0, X, c0, d0, c0, X,
            T1, NEXT_1 + A, T1, X, t1, NEXT_1 + a, t1, X,
            D1, NEXT_1 + B, D1, X, d1, NEXT_1 + b, d1, X,
            T0, NEXT_0 + A, T0, X, t0, NEXT_0 + a, t0, X,
            D0, NEXT_0 + B, D0, X, d0, NEXT_0 + b, d0, X,
        };
        private static final int[] LEFT_PAIRS_WITH_1 = {B, c, B, c0};

        static int base(int state, int symbol) {
            return 1 + KINDS * (2 * (state - 1) + symbol);
        }

        /** Whether a letter is an A, the first one of a state and a symbol. */
        static boolean isBase(int letter, int states) {
            return letter >= 1 && letter < base(states + 1, 0) && (letter - 1) % KINDS == A;
        }

        static int stateOf(int base) {
            return (base - 1) / KINDS / 2 + 1;
        }

        static int symbolOf(int base) {
            return (base - 1) / KINDS % 2;
        }

        static void make(TagSystem system, TapeMachine machine) {
            int states = machine.greatestState();
            system.begin(base(states + 1, 0), states);
            for (int state = 1; state <= states; state++) {
                makeFor(system, machine, state, 0);
                makeFor(system, machine, state, 1);
            }
        }

        private static void makeFor(TagSystem system, TapeMachine machine, int state, int symbol) {
            int own = base(state, symbol);
            if (!machine.hasStep(state, symbol)) {
                system.setHalting(own + A, true);
                return;
            }
            int next = base(machine.nextOf(state, symbol), 0);
            boolean toRight = machine.moveOf(state, symbol) == TapeMachine.TO_RIGHT;
            addAll(system, toRight ? RIGHT_PAIRS : LEFT_PAIRS, own, next);
            if (machine.writeOf(state, symbol) == 1) {
                addAll(system, toRight ? RIGHT_PAIRS_WITH_1 : LEFT_PAIRS_WITH_1, own, next);
            }
        }

        private static void addAll(TagSystem system, int[] pairs, int own, int next) {
            for (int i = 0; i + 1 < pairs.length; i += 2) {
                system.addToProduction(own + pairs[i], letterOf(pairs[i + 1], own, next));
            }
        }

        private static int letterOf(int name, int own, int next) {
            if (name == X) {
                return LETTER_X;
            }
            return name < KINDS ? own + name : next + name - NEXT_0;
        }
    }
}
