/** The sentences of the document's part 'Terms' that name a boundary case, each by a test of its own. */
public final class TermsBoundaryTest extends Bench {
    private static final int TO_LEFT = 0, TO_RIGHT = 1;

    // ---- the tape

    private static void tapeLimit() {
        sentence("Terms", "A step by which a number would be 256 or more is not made: LIMIT.");
        for (int move = TO_LEFT; move <= TO_RIGHT; move++) {
            doubled(move, 0, 0, 0);
            doubled(move, 0, 1, 1);
            doubled(move, 127, 0, 254);
            doubled(move, 127, 1, 255);
            doubled(move, 128, 0, LIMIT);
            doubled(move, 128, 1, LIMIT);
            doubled(move, 255, 0, LIMIT);
            doubled(move, 255, 1, LIMIT);
        }
    }

    /** The other number is the greatest there is: it is halved, so it is in no one's way. */
    private static void doubled(int move, int number, int write, int after) {
        CountedWorkshop x = walker(write, move);
        int place = move == TO_RIGHT ? 2 : 3;
        int otherPlace = move == TO_RIGHT ? 3 : 2;
        x.tape(1, 0, move == TO_RIGHT ? number : 255, move == TO_RIGHT ? 255 : number);
        boolean goes = after != LIMIT;
        String what = number + " doubled, and " + write + ", moving " + move;
        due(what, x.tapeNow(4), goes ? 1 : LIMIT);
        due(what + ", steps", x.stepTape(1), goes ? 1 : 0);
        due(what + ", the number", x.tapeNow(place), goes ? after : number);
        due(what + ", the other", x.tapeNow(otherPlace), goes ? 127 : 255);
        due(what + ", the symbol", x.tapeNow(1), goes ? 1 : 0);
        due(what + ", the state", x.tapeNow(0), 1);
    }

    private static void tapeHaltBeforeLimit() {
        sentence("Terms", "A step by which a number would be 256 or more is not made: LIMIT.");
        CountedWorkshop x = new CountedWorkshop();
        x.tape(1, 0, 255, 255);
        due("a missing rule makes no number great", x.tapeNow(4), 0);
        x.rule(1, 0, 1, TO_RIGHT, 0);
        due("nor does one that halts, to the right", x.tapeNow(4), 0);
        x.rule(1, 0, 1, TO_LEFT, 0);
        due("nor to the left", x.tapeNow(4), 0);
    }

    private static void tapeHalves() {
        sentence("Terms", "the symbol RIGHT modulo 2, RIGHT its half (rounded down); to the left the same");
        for (int number : new int[] {0, 1, 2, 3, 254, 255}) {
            CountedWorkshop x = walker(1, TO_RIGHT);
            x.tape(1, 0, 3, number);
            x.stepTape(1);
            due("to the right", configurationOf(x), "1 " + number % 2 + " 7 " + number / 2);
            x = walker(1, TO_LEFT);
            x.tape(1, 0, number, 3);
            x.stepTape(1);
            due("to the left", configurationOf(x), "1 " + number % 2 + " " + number / 2 + " 7");
        }
    }

    // ---- the tag system

    private static void tagHalts() {
        sentence("Terms", "It halts when the word has less than two letters or the first one halts");
        for (int size = 0; size <= 3; size++) {
            CountedWorkshop x = own(row(1, 1), row(0));
            for (int i = 0; i < size; i++) x.put(0);
            due("a word of " + size, x.tagNow(2), size < 2 ? 0 : 1);
            due("a step with " + size, x.stepTag(1), size < 2 ? 0 : 1);
            due("letters behind it", x.tagNow(1), size);
        }
        CountedWorkshop x = own(row(1, 1), row(0));
        putAll(x, 0, 1, 1);
        x.halts(1, true);
        due("letters that halt, but not in front", x.tagNow(2), 1);
        due("one step is made", x.stepTag(9), 1);
        due("the first one halts", x.tagNow(2), 0);
        due("the word stays", wordOf(x), "1 1 1");
    }

    private static void tagLimit() {
        sentence("Terms", "a step by which the word would have more than 4000 is not made: LIMIT.");
        for (int size : new int[] {3990, 3991, 3998, 3999, 4000}) {
            for (int production = 0; production <= 12; production++) {
                CountedWorkshop x = full(size, production);
                int after = size - 2 + production;
                String what = "a word of " + size + " and a production of " + production;
                due(what, x.tagNow(2), after <= 4000 ? 1 : LIMIT);
                due(what + ", steps", x.stepTag(1), after <= 4000 ? 1 : 0);
                due(what + ", letters", x.tagNow(1), after <= 4000 ? after : size);
            }
        }
        CountedWorkshop x = full(4000, 3);
        x.halts(1, true);
        due("a full word whose first letter halts", x.tagNow(2), 0);
    }

    // ---- the made tag system

    private static void madeLetters() {
        sentence("Terms", "If the greatest state that a rule was told for (also as a next one) is N, L is 1 + 36 * N.");
        for (int n = 1; n <= 8; n++) {
            CountedWorkshop x = new CountedWorkshop();
            x.rule(1, 0, 0, 0, 0);
            x.rule(1, 1, 0, 0, 0);
            x.rule(n, 1, 0, 0, 0);
            due("one rule of state " + n, x.compileTag(), 1 + 36 * n);
            due("L", x.tagNow(0), 1 + 36 * n);
            due("the last letter", x.put(36 * n), true);
            due("one behind it", x.put(36 * n + 1), false);
            x.rule(n, 0, 0, 0, 0);
            x.rule(1, 0, 0, 0, n);
            due("state " + n + " as a next one", x.compileTag(), 1 + 36 * n);
        }
    }

    /** State 1 goes on with 0 and halts with 1; 2 was never told; 3 goes on with 0, and 1 is missing. */
    private static CountedWorkshop gaps(int q, int s) {
        CountedWorkshop x = new CountedWorkshop();
        x.rule(1, 0, 1, 1, 1);
        x.rule(1, 1, 1, 0, 0);
        x.rule(3, 0, 1, 0, 1);
        x.compileTag();
        x.tape(q, s, 0, 0);
        x.lockStep(0);
        return x;
    }

    private static boolean gapsGo(int q, int s) { return s == 0 && q != 2; }

    private static void madeHalts() {
        sentence("Terms", "With a rule that halts (or none), A halts, and all productions are empty.");
        for (int q = 1; q <= 3; q++) for (int s = 0; s < 2; s++) {
            CountedWorkshop x = gaps(q, s);
            int first = 1 + 18 * (2 * (q - 1) + s);
            String what = "state " + q + " with " + s;
            due(what + ", the first letter", x.tagLetter(0), first);
            due(what + ", A halts", x.tagNow(2), gapsGo(q, s) ? 1 : 0);
            // C0 and c0 have no production in a step to the right.
            for (int j = 0; j < (gapsGo(q, s) ? 16 : 18); j++) {
                due(what + ", letter " + j + " has a production", x.production(first + j, 0) != NONE, gapsGo(q, s));
            }
        }
    }

    /** A word that begins with any letter: all before it is taken away, and A of (2, 0) halts no more. */
    private static CountedWorkshop gapsWith(int letter) {
        CountedWorkshop x = gaps(2, 0);
        x.halts(37, false);
        x.stepTag(2);
        x.halts(37, true);
        putAll(x, letter, 0);
        return x;
    }

    private static void madeOthersGoOn() {
        sentence("Terms", "With a rule that halts (or none), A halts, and all productions are empty.");
        for (int letter = 0; letter < 109; letter++) {
            int q = (letter + 35) / 36;
            int s = (letter + 17) / 18 % 2 == 0 ? 1 : 0;
            boolean halting = letter % 18 == 1 && !gapsGo(q, s);
            due("letter " + letter, gapsWith(letter).tagNow(2), halting ? 0 : 1);
        }
    }

    private static void madeX() {
        sentence("Terms", "letter 0 is x, with an empty production");
        CountedWorkshop x = gapsWith(0);
        due("its production", x.production(0, 0), NONE);
        due("a step", x.stepTag(1), 1);
        due("the word", x.tagNow(1), 0);
    }

    private static void madeOtherProductions() {
        sentence("Terms", "Other productions are empty.");
        CountedWorkshop x = made();
        due("C0 to the right", productionOf(x, 1 + 16), "");
        due("c0 to the right", productionOf(x, 1 + 17), "");
        due("C0 to the left", productionOf(x, 19 + 16), "0 28 0");
        due("c0 to the left", productionOf(x, 19 + 17), "30 0");
    }

    private static void code() {
        sentence("Terms", "The CODE of a configuration is A x, LEFT times a x, B x, RIGHT times b x");
        int[][] numbers = {{0, 0}, {1, 0}, {0, 1}, {255, 0}, {0, 255}, {255, 255}};
        for (int[] n : numbers) {
            CountedWorkshop x = twoStates();
            x.tape(2, 1, n[0], n[1]);
            x.compileTag();
            due("letters", x.tagNow(1), 4 + 2 * n[0] + 2 * n[1]);
            due("A", x.tagLetter(0), 55);
            due("the last before B", x.tagLetter(2 * n[0]), n[0] == 0 ? 55 : 56);
            due("B", x.tagLetter(2 + 2 * n[0]), 57);
            due("the last letter but one", x.tagLetter(x.tagNow(1) - 2), n[1] == 0 ? 57 : 58);
            due("the last", x.tagLetter(x.tagNow(1) - 1), 0);
            due("read back", decodedOf(x), "2 1 " + n[0] + " " + n[1]);
        }
    }

    // ---- the cyclic system

    private static void cyclicHalts() {
        sentence("Terms", "There it halts when the word is of fewer than two blocks");
        for (int size = 0; size <= 3; size++) {
            CountedWorkshop x = own(row(1, 1), row(0));
            for (int i = 0; i < size; i++) x.put(0);
            x.compileCyclic();
            due("blocks: " + size, x.cyclicNow(2), size < 2 ? 0 : 1);
            due("a round with " + size, x.stepCyclic(4), size < 2 ? 0 : 4);
            due("bits behind it", x.cyclicNow(1), 2 * size);
        }
    }

    private static void cyclicHaltsByLetter() {
        sentence("Terms", "or the first block is that of a letter that halts");
        CountedWorkshop x = own(row(1, 1), row(0));
        putAll(x, 0, 1, 1);
        x.halts(1, true);
        x.compileCyclic();
        due("the other blocks are those of one that halts", x.cyclicNow(2), 1);
        for (int turn = 1; turn < 4; turn++) {
            due("a step", x.stepCyclic(1), 1);
            due("between the borders no block halts", x.cyclicNow(2), 1);
        }
        due("the round's last step", x.stepCyclic(20000), 1);
        due("the first block is", x.decodeCyclic(0), 1);
        due("it halts", x.cyclicNow(2), 0);
        due("bits", x.cyclicNow(1), 6);
    }

    private static void cyclicLimit() {
        sentence("Terms", "if its blocks less two and those of the first letter's production were more than 4000, "
                + "it is at its LIMIT.");
        for (int size : new int[] {3990, 3991, 3998, 3999, 4000}) {
            for (int production = 0; production <= 12; production++) {
                CountedWorkshop x = full(size, production);
                x.compileCyclic();
                int after = size - 2 + production;
                String what = size + " blocks and a production of " + production;
                due(what, x.cyclicNow(2), after <= 4000 ? 1 : LIMIT);
                due(what + ", steps", x.stepCyclic(6), after <= 4000 ? 6 : 0);
                due(what + ", bits", x.cyclicNow(1), 3 * (after <= 4000 ? after : size));
                due(what + ", the turn", x.cyclicNow(3), 0);
            }
        }
        CountedWorkshop x = full(4000, 3);
        x.halts(1, true);
        x.compileCyclic();
        due("a full word whose first letter halts", x.cyclicNow(2), 0);
    }

    private static void cyclicPastLimitWithinRound() {
        sentence("Terms", "It is at a border when it is appendant 0's turn. There ..");
        CountedWorkshop x = full(3990, 12);
        x.compileCyclic();
        due("the 1 of the first block", x.stepCyclic(2), 2);
        due("more bits than at any border", x.cyclicNow(1), 3 * 4002 - 2);
        due("it goes on all the same", x.cyclicNow(2), 1);
        due("the last 1", x.cyclicBit(3 * 4002 - 4), 1);
        due("the last bit", x.cyclicBit(3 * 4002 - 3), 0);
        due("one behind it", x.cyclicBit(3 * 4002 - 2), NONE);
        due("the rest of the round", x.stepCyclic(20000), 4);
        due("bits", x.cyclicNow(1), 3 * 4000);
    }

    private static void turns() {
        sentence("Terms", "the appendant whose turn it is (0, 1, .. 2 L - 1, 0 ..)");
        for (int letters : new int[] {1, 2, 3, 60}) {
            CountedWorkshop x = new CountedWorkshop();
            x.ownTag(letters);
            x.extend(0, 0);
            x.extend(0, 0);
            putAll(x, 0, 0);
            x.compileCyclic();
            for (int step = 0; step <= 2 * letters; step++) {
                due("the turn of " + letters + " letters behind " + step, x.cyclicNow(3), step % (2 * letters));
                x.stepCyclic(1);
            }
        }
        CountedWorkshop x = new CountedWorkshop();
        x.ownTag(300);
        putAll(x, 299, 299);
        x.compileCyclic();
        x.stepCyclic(599);
        due("the last turn of 300 letters", x.cyclicNow(3), 599);
        due("its bit", x.cyclicBit(0), 1);
        x.stepCyclic(1);
        due("behind it", x.cyclicNow(3), 0);
    }

    private static void emptyAppendants() {
        sentence("Terms", "number k below L is the blocks of letter k's production, the others are empty");
        CountedWorkshop x = own(row(1), row(0, 1));
        putAll(x, 1, 1);
        x.compileCyclic();
        due("the first block's 0 puts nothing", x.stepCyclic(1) + x.cyclicNow(1), 1 + 3);
        due("its 1 puts appendant 1", x.stepCyclic(1) + x.cyclicNow(1), 1 + 2 + 4);
        due("the second block's 0", x.stepCyclic(1) + x.cyclicNow(1), 1 + 1 + 4);
        due("its 1 puts appendant 3, which is empty", x.stepCyclic(1) + x.cyclicNow(1), 1 + 4);
        due("the bits", bitsOf(x), "1001");
    }

    public static void main(String[] args) {
        tapeLimit();
        tapeHaltBeforeLimit();
        tapeHalves();
        tagHalts();
        tagLimit();
        madeLetters();
        madeHalts();
        madeOthersGoOn();
        madeX();
        madeOtherProductions();
        code();
        cyclicHalts();
        cyclicHaltsByLetter();
        cyclicLimit();
        cyclicPastLimitWithinRound();
        turns();
        emptyAppendants();
        end("TermsBoundaryTest");
    }
}
