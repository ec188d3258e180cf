import java.util.ArrayList;
import java.util.List;

/**
 * The document followed word by word, with lists and true bits, whatever it costs: what
 * ModelTest holds TagWorkshop against. The productions are read from the document's own text.
 */
final class NaiveWorkshop {
    private static final int NONE = -1, LIMIT = -2;
    private static final String[] ROW =
            "A a B b C c S s D1 D0 d1 d0 T1 T0 t1 t0 C0 c0".split(" ");
    private static final String RIGHT = "A: C x, and c x if w is 1.  a: c x c x.  B: S.  b: s.  C: D1 D0.  "
            + "c: d1 d0.  S: T1 T0.  s: t1 t0.  D1: A' x.  d1: a' x.  T1: B' x.  t1: b' x.  D0: x A\" x.  "
            + "d0: a\" x.  T0: B\" x.  t0: b\" x.";
    private static final String LEFT = "A: S.  a: s.  B: C C0, and c c0 if w is 1.  b: c c0 c c0.  "
            + "S: T1 T0.  s: t1 t0.  C: D1 x.  c: d1 x.  C0: x D0 x.  c0: d0 x.  T1: A' x.  t1: a' x.  "
            + "D1: B' x.  d1: b' x.  T0: A\" x.  t0: a\" x.  D0: B\" x.  d0: b\" x.";

    /** write, move, next of a state and a symbol, or null. */
    private final int[][][] rules = new int[9][2][];
    private int state = 1, symbol = 0, left = 0, right = 0;

    private static final class Tag {
        List<List<Integer>> productions = new ArrayList<>();
        List<Boolean> halting = new ArrayList<>();
        List<Integer> word = new ArrayList<>();
        boolean made;

        int letters() { return productions.size(); }
        boolean has(int v) { return v >= 0 && v < letters(); }
    }

    private Tag tag = new Tag();
    private int cyclicLetters = 0;
    private List<List<Integer>> appendants = new ArrayList<>();
    private List<Boolean> cyclicHalting = new ArrayList<>();
    /** The bits that are taken already stay in front: taking them out of the list would be too slow. */
    private List<Integer> bits = new ArrayList<>();
    private int taken = 0;
    private int turn = 0;

    private static boolean in(int v, int low, int high) { return v >= low && v <= high; }
    private static int clamp(int n, int most) { return n < 0 ? 0 : n > most ? most : n; }

    boolean rule(int q, int s, int w, int m, int next) {
        if (!in(q, 1, 8) || !in(s, 0, 1) || !in(w, 0, 1) || !in(m, 0, 1) || !in(next, 0, 8)) return false;
        rules[q][s] = new int[] {w, m, next};
        return true;
    }

    private static boolean configuration(int q, int s, int l, int r) {
        return in(q, 1, 8) && in(s, 0, 1) && in(l, 0, 255) && in(r, 0, 255);
    }

    boolean tape(int q, int s, int l, int r) {
        if (!configuration(q, s, l, r)) return false;
        state = q; symbol = s; left = l; right = r;
        return true;
    }

    private boolean missing(int q) { return rules[q][0] == null || rules[q][1] == null; }

    private static int letter(int q, int s, String name) {
        for (int j = 0; j < ROW.length; j++) {
            if (ROW[j].equals(name)) return 1 + 18 * (2 * (q - 1) + s) + j;
        }
        throw new IllegalStateException(name);
    }

    private static int named(String name, int q, int s, int next) {
        if (name.equals("x")) return 0;
        String bare = name.substring(0, name.length() - 1);
        if (name.endsWith("'")) return letter(next, 1, bare);
        if (name.endsWith("\"")) return letter(next, 0, bare);
        return letter(q, s, name);
    }

    int compileTag() {
        int greatest = 0;
        for (int q = 1; q <= 8; q++) for (int s = 0; s < 2; s++) {
            if (rules[q][s] == null) continue;
            greatest = Math.max(greatest, Math.max(q, rules[q][s][2]));
            if (rules[q][s][2] != 0 && missing(rules[q][s][2])) return 0;
        }
        if (greatest == 0 || missing(state)) return 0;
        begin(1 + 36 * greatest);
        tag.made = true;
        for (int q = 1; q <= greatest; q++) for (int s = 0; s < 2; s++) make(q, s);
        writeCode();
        removeCyclic();
        return tag.letters();
    }

    private void make(int q, int s) {
        int[] rule = rules[q][s];
        if (rule == null || rule[2] == 0) {
            tag.halting.set(letter(q, s, "A"), true);
            return;
        }
        for (String sentence : (rule[1] == 1 ? RIGHT : LEFT).split("\\.\\s*")) {
            String[] sides = sentence.split(": ");
            String text = sides[1].replace(" if w is 1", "");
            if (rule[0] == 0) text = text.replaceAll(", and .*", "");
            for (String name : text.replace(", and", "").split(" ")) {
                tag.productions.get(letter(q, s, sides[0])).add(named(name, q, s, rule[2]));
            }
        }
    }

    private void begin(int letters) {
        tag = new Tag();
        for (int v = 0; v < letters; v++) {
            tag.productions.add(new ArrayList<>());
            tag.halting.add(false);
        }
    }

    private void writeCode() {
        tag.word.clear();
        pairs("A", 1); pairs("a", left); pairs("B", 1); pairs("b", right);
    }

    private void pairs(String name, int count) {
        for (int i = 0; i < count; i++) {
            tag.word.add(letter(state, symbol, name));
            tag.word.add(0);
        }
    }

    private void removeCyclic() {
        cyclicLetters = 0; turn = 0; taken = 0;
        appendants.clear(); cyclicHalting.clear(); bits.clear();
    }

    boolean ownTag(int letters) {
        if (!in(letters, 1, 300)) return false;
        begin(letters);
        removeCyclic();
        return true;
    }

    boolean extend(int letter, int v) {
        if (!tag.has(letter) || !tag.has(v) || tag.productions.get(letter).size() >= 12) return false;
        tag.productions.get(letter).add(v);
        return true;
    }

    int spoil(int letter, int i, int v) {
        if (production(letter, i) == NONE || !tag.has(v)) return NONE;
        return tag.productions.get(letter).set(i, v);
    }

    boolean halts(int letter, boolean on) {
        if (!tag.has(letter)) return false;
        tag.halting.set(letter, on);
        return true;
    }

    boolean put(int v) {
        if (!tag.has(v) || tag.word.size() >= 4000) return false;
        tag.word.add(v);
        return true;
    }

    private static int at(List<Integer> list, int i) { return in(i, 0, list.size() - 1) ? list.get(i) : NONE; }

    int production(int letter, int i) { return tag.has(letter) ? at(tag.productions.get(letter), i) : NONE; }

    private void addBlocks(List<Integer> to, List<Integer> word) {
        for (int v : word) for (int k = 0; k < cyclicLetters; k++) to.add(k == v ? 1 : 0);
    }

    int compileCyclic() {
        if (tag.letters() == 0) return 0;
        removeCyclic();
        cyclicLetters = tag.letters();
        for (int k = 0; k < 2 * cyclicLetters; k++) {
            appendants.add(new ArrayList<>());
            if (k < cyclicLetters) addBlocks(appendants.get(k), tag.productions.get(k));
        }
        cyclicHalting.addAll(tag.halting);
        addBlocks(bits, tag.word);
        return appendants.size();
    }

    int appendant(int k, int i) { return in(k, 0, appendants.size() - 1) ? at(appendants.get(k), i) : NONE; }

    private int tapeGoes() {
        int[] rule = rules[state][symbol];
        if (rule == null || rule[2] == 0) return 0;
        return 2 * (rule[1] == 1 ? left : right) + rule[0] >= 256 ? LIMIT : 1;
    }

    private void tapeStep() {
        int[] rule = rules[state][symbol];
        if (rule[1] == 1) {
            left = 2 * left + rule[0]; symbol = right & 1; right >>= 1;
        } else {
            right = 2 * right + rule[0]; symbol = left & 1; left >>= 1;
        }
        state = rule[2];
    }

    private int tagGoes() {
        if (tag.word.size() < 2 || tag.halting.get(tag.word.get(0))) return 0;
        return tag.word.size() - 2 + tag.productions.get(tag.word.get(0)).size() > 4000 ? LIMIT : 1;
    }

    private void tagStep() {
        int first = tag.word.get(0);
        tag.word.subList(0, 2).clear();
        tag.word.addAll(tag.productions.get(first));
    }

    private int bitCount() { return bits.size() - taken; }

    /** The letter that block i says, NONE when it is not just one 1. */
    private int block(int i) {
        int letter = NONE;
        for (int k = 0; k < cyclicLetters; k++) {
            if (bits.get(taken + i * cyclicLetters + k) == 0) continue;
            if (letter != NONE) return NONE;
            letter = k;
        }
        return letter;
    }

    private int cyclicGoes() {
        if (turn != 0) return bitCount() == 0 ? 0 : 1;
        if (cyclicLetters == 0 || bitCount() / cyclicLetters < 2) return 0;
        int first = block(0);
        if (first == NONE) throw new IllegalStateException("a block that is none at a border");
        if (cyclicHalting.get(first)) return 0;
        int blocks = (bitCount() + appendants.get(first).size()) / cyclicLetters - 2;
        return blocks > 4000 ? LIMIT : 1;
    }

    private void cyclicStep() {
        if (bits.get(taken++) == 1) bits.addAll(appendants.get(turn));
        turn = (turn + 1) % appendants.size();
    }

    int stepTape(int n) {
        int done = 0;
        for (; done < clamp(n, 20000) && tapeGoes() == 1; done++) tapeStep();
        return done;
    }

    int stepTag(int n) {
        int done = 0;
        for (; done < clamp(n, 20000) && tagGoes() == 1; done++) tagStep();
        return done;
    }

    int stepCyclic(int n) {
        int done = 0;
        for (; done < clamp(n, 20000) && cyclicGoes() == 1; done++) cyclicStep();
        return done;
    }

    int tapeNow(int what) {
        int[] all = {state, symbol, left, right, tapeGoes()};
        return in(what, 0, 4) ? all[what] : NONE;
    }

    int tagNow(int what) {
        int[] all = {tag.letters(), tag.word.size(), tagGoes()};
        return in(what, 0, 2) ? all[what] : NONE;
    }

    int cyclicNow(int what) {
        int[] all = {appendants.size(), bitCount(), cyclicGoes(), turn};
        return in(what, 0, 3) ? all[what] : NONE;
    }

    int tagLetter(int i) { return at(tag.word, i); }

    int cyclicBit(int i) { return in(i, 0, bitCount() - 1) ? bits.get(taken + i) : NONE; }

    /** State, symbol, LEFT and RIGHT if the word is a code, else null. */
    private int[] border() {
        if (!tag.made || tag.word.size() % 2 != 0) return null;
        for (int i = 1; i < tag.word.size(); i += 2) if (tag.word.get(i) != 0) return null;
        for (int q = 1; 1 + 36 * q <= tag.letters(); q++) for (int s = 0; s < 2; s++) {
            int[] counts = counts(letter(q, s, "A"));
            if (counts != null) return new int[] {q, s, counts[1], counts[3]};
        }
        return null;
    }

    /** How often A, a, B, b stand in this order before an x, null when other letters do. */
    private int[] counts(int first) {
        int[] counts = new int[4];
        int last = 0;
        for (int i = 0; i < tag.word.size(); i += 2) {
            int j = tag.word.get(i) - first;
            if (!in(j, last, 3)) return null;
            counts[j]++;
            last = j;
        }
        return counts[0] == 1 && counts[2] == 1 ? counts : null;
    }

    int decodeTag(int what) {
        int[] border = border();
        return border != null && in(what, 0, 3) ? border[what] : NONE;
    }

    int decodeCyclic(int i) {
        if (turn != 0 || cyclicLetters == 0 || !in(i, 0, bitCount() / cyclicLetters - 1)) return NONE;
        return block(i);
    }

    int nextBorder() {
        for (int done = 1; done <= 20000; done++) {
            if (tagGoes() != 1) return 0;
            tagStep();
            if (border() != null) return done;
        }
        return 0;
    }

    int roundCost(int q, int s, int l, int r) {
        if (!configuration(q, s, l, r) || rules[q][s] == null || rules[q][s][2] == 0) return NONE;
        int m = rules[q][s][1] == 1 ? l : r;
        int h = (rules[q][s][1] == 1 ? r : l) / 2;
        return l + r + 2 + 2 * (2 * m + rules[q][s][0] + 2 + h);
    }

    int lockStep(int n) {
        if (!tag.made || 1 + 36 * state > tag.letters()) return NONE;
        writeCode();
        for (int step = 0; step < clamp(n, 200); step++) {
            if (tapeGoes() == LIMIT) return LIMIT;
            if (tapeGoes() == 0) return tagGoes() == 0 ? 0 : 1 + step;
            tapeStep();
            if (nextBorder() == 0) return 1 + step;
            int[] border = border();
            if (border[0] != state || border[1] != symbol || border[2] != left || border[3] != right) {
                return 1 + step;
            }
        }
        return 0;
    }
}
