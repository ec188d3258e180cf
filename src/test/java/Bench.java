import java.util.Arrays;
import java.util.function.Supplier;

/** What the tests of this project have in common: objects to begin with, and how they are read. */
abstract class Bench {
    static final int NONE = TagWorkshop.NONE, LIMIT = TagWorkshop.LIMIT;
    static final int LEAST = Integer.MIN_VALUE, GREATEST = Integer.MAX_VALUE;
    private static String sentence = "";
    private static int answers = 0;
    private static int wrong = 0;

    static void look(String where, String what, Object got, Object want) {
        answers++;
        if (!got.equals(want)) {
            wrong++;
            System.out.println(where + ": " + what + ": the answer is '" + got + "', due is '" + want + "'");
        }
    }

    /** The document's words that the answers behind this are about. */
    static void sentence(String where, String words) { sentence = where + " '" + words + "'"; }

    static void due(String what, Object got, Object want) { look(sentence, what, got, want); }

    /** A call that is refused: it answers so, and from then on all answers are as without it. */
    static void refused(String what, Supplier<CountedWorkshop> recipe, Deed call, Object want) {
        due(what, call.on(recipe.get()), want);
        due(what + ", what it changed", new Twins(recipe, call).difference(), "");
    }

    static void end(String test) {
        System.out.println(test + ": " + answers + " answers, " + wrong + " wrong");
        if (wrong != 0) System.exit(1);
    }

    /** Rules to the right and to the left in state 1, and a halt in state 2. */
    static CountedWorkshop twoStates() {
        CountedWorkshop x = new CountedWorkshop();
        x.rule(1, 0, 1, 1, 2);
        x.rule(1, 1, 1, 0, 1);
        x.rule(2, 0, 1, 0, 1);
        x.rule(2, 1, 0, 1, 0);
        x.tape(1, 0, 2, 3);
        return x;
    }

    static CountedWorkshop made() {
        CountedWorkshop x = twoStates();
        x.compileTag();
        return x;
    }

    /** One state that walks one way for ever and writes the same. */
    static CountedWorkshop walker(int write, int move) {
        CountedWorkshop x = new CountedWorkshop();
        x.rule(1, 0, write, move, 1);
        x.rule(1, 1, write, move, 1);
        return x;
    }

    /** A user's system; the productions stand one behind the other, a row of letters each. */
    static CountedWorkshop own(int[]... productions) {
        CountedWorkshop x = new CountedWorkshop();
        x.ownTag(productions.length);
        for (int letter = 0; letter < productions.length; letter++) {
            for (int v : productions[letter]) x.extend(letter, v);
        }
        return x;
    }

    static int[] row(int... letters) { return letters; }

    static int[] twelve(int letter) {
        int[] letters = new int[12];
        Arrays.fill(letters, letter);
        return letters;
    }

    /** Numbers that are not from low to high: those beside them, and the farthest. */
    static int[] beyond(int low, int high) { return new int[] {low - 1, high + 1, LEAST, GREATEST}; }

    /** A made system in the midst of things: no word is a code, no turn is 0. */
    static CountedWorkshop busyMade() {
        CountedWorkshop x = made();
        x.compileCyclic();
        x.stepCyclic(149);
        x.stepTag(3);
        return x;
    }

    /** A system of the user's in the midst of things, beside rules of two states. */
    static CountedWorkshop busyOwn() {
        CountedWorkshop x = twoStates();
        x.ownTag(3);
        for (int v : row(1, 2)) x.extend(0, v);
        for (int v : row(0, 0, 0)) x.extend(2, v);
        putAll(x, 0, 0, 2, 0, 1, 2);
        x.compileCyclic();
        x.stepCyclic(8);
        x.stepTag(1);
        return x;
    }

    /** A user's system, its word 3960 to 4000 times letter 1, which has so long a production. */
    static CountedWorkshop full(int size, int production) {
        CountedWorkshop x = own(twelve(1), row(), twelve(0));
        for (int i = 0; i < 110; i++) x.put(2);
        x.stepTag(55 + 330);
        for (int i = 3960; i < size; i++) x.put(1);
        for (int i = 0; i < production; i++) x.extend(1, 1);
        return x;
    }

    static void putAll(CountedWorkshop x, int... letters) {
        for (int v : letters) x.put(v);
    }

    static String productionOf(CountedWorkshop x, int letter) {
        StringBuilder text = new StringBuilder();
        for (int i = 0; x.production(letter, i) != NONE; i++) text.append(x.production(letter, i)).append(' ');
        return text.toString().trim();
    }

    static String wordOf(CountedWorkshop x) {
        StringBuilder text = new StringBuilder();
        for (int i = 0; i < x.tagNow(1); i++) text.append(x.tagLetter(i)).append(' ');
        return text.toString().trim();
    }

    static String bitsOf(CountedWorkshop x) {
        StringBuilder text = new StringBuilder();
        for (int i = 0; i < x.cyclicNow(1); i++) text.append(x.cyclicBit(i));
        return text.toString();
    }

    static String appendantOf(CountedWorkshop x, int k) {
        StringBuilder text = new StringBuilder();
        for (int i = 0; x.appendant(k, i) != NONE; i++) text.append(x.appendant(k, i));
        return text.toString();
    }

    static String configurationOf(CountedWorkshop x) {
        return x.tapeNow(0) + " " + x.tapeNow(1) + " " + x.tapeNow(2) + " " + x.tapeNow(3);
    }

    static String decodedOf(CountedWorkshop x) {
        return x.decodeTag(0) + " " + x.decodeTag(1) + " " + x.decodeTag(2) + " " + x.decodeTag(3);
    }

    /** A made system of two states that do nothing, with an empty word. */
    static CountedWorkshop still() {
        CountedWorkshop x = new CountedWorkshop();
        for (int q = 1; q <= 2; q++) for (int s = 0; s < 2; s++) x.rule(q, s, 0, 0, 0);
        x.compileTag();
        x.halts(1, false);
        x.stepTag(2);
        return x;
    }

    /** The letters of still() but for those named A. */
    static int spare(int i) { return 2 + i + i / 17; }

    /** A made system that comes to its first border after 22312 steps. */
    static CountedWorkshop slow() {
        CountedWorkshop x = still();
        for (int pass = 0; pass < 20; pass++) {
            int copies = pass < 4 ? 12 : 2;
            for (int i = 0; i < copies; i++) x.extend(spare(pass), spare(pass + 1));
            x.extend(spare(21 + pass), spare(22 + pass));
            x.extend(spare(21 + pass), spare(22 + pass));
        }
        for (int v : new int[] {1, 0, 3, 0}) x.extend(spare(41), v);
        putAll(x, spare(21), spare(21), spare(0), spare(0));
        return x;
    }
}
