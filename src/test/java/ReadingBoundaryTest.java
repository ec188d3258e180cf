/** The sentences of promises 21 to 25 that name a boundary case, each by a test of its own. */
public final class ReadingBoundaryTest extends Bench {
    private static final String NO_CODE = "-1 -1 -1 -1";

    // ---- promise 21

    private static void decodeTagChanged() {
        sentence("Promise 21", "If the tag system is a made one (however its productions were changed since)");
        CountedWorkshop x = made();
        for (int v = 0; v < 73; v++) {
            x.extend(v, 72);
            x.spoil(v, 0, 71);
            x.halts(v, v % 2 == 1);
        }
        due("all productions changed", decodedOf(x), "1 0 2 3");
        x.rule(1, 0, 0, 0, 0);
        x.tape(2, 1, 9, 9);
        due("the rules and the configuration too", decodedOf(x), "1 0 2 3");
        putAll(x, 4, 0);
        due("the word made longer", decodedOf(x), "1 0 2 4");
    }

    private static void decodeTagOwn() {
        sentence("Promise 21", "If the tag system is a made one .. NONE otherwise");
        due("no tag system", decodedOf(new CountedWorkshop()), NO_CODE);
        for (int letters : new int[] {37, 73, 289, 300}) {
            CountedWorkshop x = made();
            x.ownTag(letters);
            putAll(x, 1, 0, 2, 0, 3, 0, 4, 0);
            due("a user's system of " + letters, decodedOf(x), NO_CODE);
            x.ownTag(letters);
            putAll(x, 19, 0, 21, 0, 22, 0);
            due("what would be symbol 1 in it", decodedOf(x), NO_CODE);
            x.compileTag();
            due("a made one in its place", decodedOf(x), "1 0 2 3");
        }
    }

    private static void decodeTagWhat() {
        sentence("Promise 21", "NONE otherwise, and for another what.");
        for (int bad : beyond(0, 3)) due("decodeTag " + bad, made().decodeTag(bad), NONE);
    }

    private static void word(String what, String want, int... letters) {
        CountedWorkshop x = still();
        putAll(x, letters);
        due(what, decodedOf(x), want);
    }

    private static void decodeTagWords() {
        sentence("Promise 21", "and its word a code");
        word("the least", "1 0 0 0", 1, 0, 3, 0);
        word("symbol 1", "1 1 0 0", 19, 0, 21, 0);
        word("state 2", "2 0 0 1", 37, 0, 39, 0, 40, 0);
        word("the last state and symbol", "2 1 1 0", 55, 0, 56, 0, 57, 0);
        word("an empty word", NO_CODE);
        word("A alone", NO_CODE, 1);
        word("A x", NO_CODE, 1, 0);
        word("A x B", NO_CODE, 1, 0, 3);
        word("x more at the end", NO_CODE, 1, 0, 3, 0, 0);
        word("x x more at the end", NO_CODE, 1, 0, 3, 0, 0, 0);
        word("b more at the end", NO_CODE, 1, 0, 3, 0, 4);
        word("no A", NO_CODE, 2, 0, 3, 0);
        word("B alone", NO_CODE, 3, 0);
        word("no B", NO_CODE, 1, 0, 2, 0, 4, 0);
        word("two A", NO_CODE, 1, 0, 1, 0, 3, 0);
        word("two B", NO_CODE, 1, 0, 3, 0, 3, 0);
        word("B before A", NO_CODE, 3, 0, 1, 0);
        word("b before B", NO_CODE, 1, 0, 4, 0, 3, 0);
        word("a behind B", NO_CODE, 1, 0, 3, 0, 2, 0);
        word("a behind b", NO_CODE, 1, 0, 3, 0, 4, 0, 2, 0);
        word("x in front", NO_CODE, 0, 1, 0, 3, 0, 0);
        word("C in A's place", NO_CODE, 5, 0, 7, 0);
    }

    private static void decodeTagMixedWords() {
        sentence("Promise 21", "The CODE of a configuration is A x, .. of its state and symbol");
        word("a of another symbol", NO_CODE, 1, 0, 20, 0, 3, 0);
        word("B of another symbol", NO_CODE, 1, 0, 21, 0);
        word("b of another symbol", NO_CODE, 1, 0, 3, 0, 22, 0);
        word("a of another state", NO_CODE, 1, 0, 38, 0, 3, 0);
        word("B of another state", NO_CODE, 1, 0, 39, 0);
        word("b of another state", NO_CODE, 1, 0, 3, 0, 40, 0);
        word("no x behind A", NO_CODE, 1, 1, 3, 0);
        word("no x behind a", NO_CODE, 1, 0, 2, 2, 3, 0);
        word("no x behind B", NO_CODE, 1, 0, 3, 3);
        word("no x behind b", NO_CODE, 1, 0, 3, 0, 4, 4);
    }

    /** A word that is put by letters of its own: 5 puts A x, 6 B x, and 7 and 8 put 300 times a x or b x. */
    private static CountedWorkshop longCode(int... order) {
        CountedWorkshop x = still();
        for (int v : row(1, 0)) x.extend(5, v);
        for (int v : row(3, 0)) x.extend(6, v);
        for (int i = 0; i < 6; i++) for (int v : row(2, 0)) x.extend(7, v);
        for (int i = 0; i < 6; i++) for (int v : row(4, 0)) x.extend(8, v);
        int steps = 0;
        for (int letter : order) {
            int times = letter < 7 ? 1 : 50;
            for (int i = 0; i < times; i++) putAll(x, letter, letter);
            steps += times;
        }
        x.stepTag(steps);
        return x;
    }

    private static void decodeTagGreatNumbers() {
        sentence("Terms", "A BORDER is a word that is a code (LEFT and RIGHT any numbers).");
        due("LEFT 300", decodedOf(longCode(5, 7, 6)), "1 0 300 0");
        due("RIGHT 300", decodedOf(longCode(5, 6, 8)), "1 0 0 300");
        due("both", decodedOf(longCode(5, 7, 6, 8)), "1 0 300 300");
        due("LEFT 600", decodedOf(longCode(5, 7, 7, 6)), "1 0 600 0");
        due("an a behind 300 b", decodedOf(longCode(5, 6, 8, 7)), NO_CODE);
    }

    // ---- promise 22

    private static CountedWorkshop cyclic() {
        CountedWorkshop x = own(row(1, 2), row(0), row(0, 0, 0));
        putAll(x, 0, 0, 0);
        x.compileCyclic();
        return x;
    }

    private static void decodeCyclicBetween() {
        sentence("Promise 22", "NONE when it is not at a border");
        CountedWorkshop x = cyclic();
        for (int step = 0; step < 24; step++) {
            for (int i = 0; i < 3; i++) due("block " + i, x.decodeCyclic(i) != NONE, step % 6 == 0);
            x.stepCyclic(1);
        }
    }

    private static void decodeCyclicNoBlock() {
        sentence("Promise 22", "there is no such block");
        for (int bad : beyond(0, 2)) due("block " + bad, cyclic().decodeCyclic(bad), NONE);
        due("no cyclic system", own(row()).decodeCyclic(0), NONE);
        CountedWorkshop x = own(row());
        x.compileCyclic();
        due("an empty word", x.decodeCyclic(0), NONE);
        x = full(4000, 2);
        x.compileCyclic();
        due("the last of 4000", x.decodeCyclic(3999), 1);
        due("one behind it", x.decodeCyclic(4000), NONE);
        x = new CountedWorkshop();
        x.ownTag(300);
        putAll(x, 299, 0);
        x.compileCyclic();
        due("the last letter there can be", x.decodeCyclic(0), 299);
        due("the first", x.decodeCyclic(1), 0);
    }

    /** At a border the blocks are the letters of the tag word, step beside step: one that is none never comes. */
    private static void decodeCyclicBlocks() {
        sentence("Promise 22", "or it is none (not just one 1)");
        CountedWorkshop x = cyclic();
        for (int step = 0; step < 20; step++) {
            int letters = x.tagNow(1);
            for (int i = 0; i < letters; i++) due("block " + i + " at border " + step, x.decodeCyclic(i), x.tagLetter(i));
            due("none behind them", x.decodeCyclic(letters), NONE);
            x.stepTag(1);
            x.stepCyclic(6);
        }
    }

    // ---- promise 23

    private static void nextBorderAtLeastOne() {
        sentence("Promise 23", "Makes tag steps, at least one, up to the next border");
        CountedWorkshop x = still();
        putAll(x, 1, 0, 3, 0);
        x.extend(1, 1);
        x.extend(1, 0);
        x.extend(3, 3);
        x.extend(3, 0);
        due("from a border to the same one", x.nextBorder(), 2);
        due("the word", wordOf(x), "1 0 3 0");
        x.stepTag(1);
        due("from before it", x.nextBorder(), 1);
        x = made();
        x.stepTag(22);
        due("the last step of a round", x.nextBorder(), 1);
        due("the code", decodedOf(x), "2 1 5 1");
    }

    private static void nextBorderOwn() {
        sentence("Promise 23", "in one of the user's there is none");
        CountedWorkshop x = own(row(1, 1), row(2, 2), row(0, 0));
        putAll(x, 0, 0);
        due("an endless word", x.nextBorder(), 0);
        due("20000 steps stay made", wordOf(x), "2 2");
        x = made();
        x.ownTag(37);
        for (int v : row(1, 0, 3, 0)) x.extend(5, v);
        putAll(x, 5, 5);
        due("what would be a code", x.nextBorder(), 0);
        due("it went on behind it", wordOf(x), "");
    }

    private static void nextBorderHalts() {
        sentence("Promise 23", "0 when it halted .. before, .. (the steps stay made)");
        refused("no tag system", CountedWorkshop::new, x -> x.nextBorder(), 0);
        refused("an empty word", Bench::still, x -> x.nextBorder(), 0);
        CountedWorkshop x = still();
        putAll(x, 1, 0, 3, 0);
        x.halts(1, true);
        due("at a border that halts", x.nextBorder(), 0);
        due("no step", wordOf(x), "1 0 3 0");
        x = made();
        x.halts(7, true);
        due("on the way", x.nextBorder(), 0);
        due("the steps stay made", x.tagLetter(0), 7);
        x = still();
        putAll(x, 5, 5, 1);
        due("down to one letter", x.nextBorder(), 0);
        due("the steps stay made", wordOf(x), "1");
    }

    /** A made system whose word is 3960 to 4000 times letter 2, which has a production of three. */
    private static CountedWorkshop fullMade(int size) {
        CountedWorkshop x = still();
        for (int v : twelve(2)) x.extend(4, v);
        for (int v : twelve(4)) x.extend(5, v);
        for (int i = 0; i < 110; i++) x.put(5);
        x.stepTag(55 + 330);
        for (int i = 3960; i < size; i++) x.put(2);
        for (int i = 0; i < 3; i++) x.extend(2, 2);
        return x;
    }

    private static void nextBorderLimit() {
        sentence("Promise 23", "0 when it .. came to its LIMIT before, .. (the steps stay made)");
        CountedWorkshop x = fullMade(4000);
        due("at its limit", x.tagNow(2), LIMIT);
        due("at once", x.nextBorder(), 0);
        due("no step", x.tagNow(1), 4000);
        x = fullMade(3990);
        due("on the way", x.nextBorder(), 0);
        due("the steps stay made", x.tagNow(1), 4000);
        due("it is at its limit", x.tagNow(2), LIMIT);
    }

    private static void nextBorderTooFew() {
        sentence("Promise 23", "at most 20000: .. or that was too few (the steps stay made)");
        CountedWorkshop x = slow();
        due("on the way", x.stepTag(2312), 2312);
        due("just enough", x.nextBorder(), 20000);
        due("the code", decodedOf(x), "1 0 0 0");
        x = slow();
        due("on the way", x.stepTag(2311), 2311);
        due("one too few", x.nextBorder(), 0);
        due("no border yet", decodedOf(x), NO_CODE);
        due("the steps stay made", x.nextBorder(), 1);
        due("the code", decodedOf(x), "1 0 0 0");
    }

    // ---- promise 24

    private static void roundCostRefuses() {
        sentence("Promise 24", "NONE when a number is not as said");
        int[][] ranges = {{1, 8}, {0, 1}, {0, 255}, {0, 255}};
        for (int at = 0; at < ranges.length; at++) {
            for (int bad : beyond(ranges[at][0], ranges[at][1])) {
                int[] c = {1, 0, 2, 3};
                c[at] = bad;
                due("number " + at + " is " + bad, made().roundCost(c[0], c[1], c[2], c[3]), NONE);
            }
        }
    }

    private static void roundCostWithoutStep() {
        sentence("Promise 24", "or the rule halts or is missing");
        CountedWorkshop x = twoStates();
        due("it halts", x.roundCost(2, 1, 0, 0), NONE);
        for (int q = 3; q <= 8; q++) for (int s = 0; s < 2; s++) due("it is missing", x.roundCost(q, s, 0, 0), NONE);
        x.rule(1, 0, 0, 0, 0);
        due("it halts from now on", x.roundCost(1, 0, 0, 0), NONE);
        x.rule(2, 1, 0, 0, 8);
        due("it goes on from now on", x.roundCost(2, 1, 0, 0), 6);
    }

    private static void roundCostEnds() {
        sentence("Promise 24", "LEFT + RIGHT + 2 + 2 * (2 * M + w + 2 + H), M the number that is doubled, "
                + "H the half (rounded down) of the other one");
        int[] ends = {0, 1, 2, 127, 128, 254, 255};
        for (int l : ends) for (int r : ends) for (int w = 0; w < 2; w++) {
            due("to the right " + l + " " + r, walker(w, 1).roundCost(1, 0, l, r), l + r + 2 + 2 * (2 * l + w + 2 + r / 2));
            due("to the left " + l + " " + r, walker(w, 0).roundCost(1, 1, l, r), l + r + 2 + 2 * (2 * r + w + 2 + l / 2));
        }
    }

    private static void roundCostIsWhatItNeeds() {
        sentence("Promise 24", "How many tag steps the made system needs for one step of the tape machine");
        int[] ends = {0, 1, 2, 3, 126, 127, 255};
        for (int l : ends) for (int r : ends) for (int each = 0; each < 4; each++) {
            CountedWorkshop x = walker(each / 2, each % 2);
            x.tape(1, l % 2, l, r);
            x.compileTag();
            due("from " + l + " " + r, x.nextBorder(), x.roundCost(1, l % 2, l, r));
        }
    }

    // ---- promise 25

    /**
     * Four steps and a halt: (1 0 2 2), (2 0 5 1), (1 1 2 3), (1 0 1 7), (2 1 3 3). The letters A of
     * these are 1, 37, 19, 1 and 55.
     */
    private static CountedWorkshop fourSteps() {
        CountedWorkshop x = twoStates();
        x.tape(1, 0, 2, 2);
        x.compileTag();
        return x;
    }

    private static void stoppedAt(CountedWorkshop x, String configuration, String decoded) {
        due("the configuration is where it stopped", configurationOf(x), configuration);
        due("the word is where it stopped", decodedOf(x), decoded);
    }

    private static void lockStepAgrees() {
        sentence("Promise 25", "0 when all agreed");
        String[] ways = {"1 0 2 2", "2 0 5 1", "1 1 2 3", "1 0 1 7", "2 1 3 3", "2 1 3 3", "2 1 3 3"};
        for (int n = 0; n < ways.length; n++) {
            CountedWorkshop x = fourSteps();
            due("lockStep " + n, x.lockStep(n), 0);
            stoppedAt(x, ways[n], ways[n]);
        }
        for (int n : new int[] {-1, LEAST}) {
            CountedWorkshop x = fourSteps();
            x.stepTag(3);
            due("lockStep " + n, x.lockStep(n), 0);
            stoppedAt(x, ways[0], ways[0]);
        }
    }

    private static void lockStepFromTheConfiguration() {
        sentence("Promise 25", "From the configuration, and the word made its code");
        CountedWorkshop x = fourSteps();
        putAll(x, 72, 72, 72);
        x.stepTag(2);
        x.stepTape(2);
        due("from another word", x.lockStep(1), 0);
        stoppedAt(x, "1 0 1 7", "1 0 1 7");
        x = fourSteps();
        x.tape(1, 1, 255, 127);
        due("the greatest numbers", x.lockStep(1), 0);
        stoppedAt(x, "1 1 127 255", "1 1 127 255");
        due("at the limit now", x.lockStep(1), LIMIT);
    }

    private static void lockStepAtMost() {
        sentence("Promise 25", "at most n (up to 200) steps of the tape");
        for (int n : new int[] {199, 200, 201, 20000, GREATEST}) {
            CountedWorkshop x = new CountedWorkshop();
            for (int s = 0; s < 2; s++) {
                x.rule(1, s, s, 1, 2);
                x.rule(2, s, s, 0, 3);
                x.rule(3, s, s, 1, 4);
                x.rule(4, s, s, 0, 5);
                x.rule(5, s, s, 1, 1);
            }
            x.compileTag();
            due("lockStep " + n, x.lockStep(n), 0);
            due("the state", x.tapeNow(0), 1 + Math.min(n, 200) % 5);
            due("the state that the word says", x.decodeTag(0), 1 + Math.min(n, 200) % 5);
        }
    }

    private static void lockStepAnotherCode() {
        sentence("Promise 25", "1 + the step (from 0) behind which the border is another code");
        CountedWorkshop x = fourSteps();
        x.rule(1, 0, 0, 1, 2);
        due("behind step 0", x.lockStep(9), 1);
        stoppedAt(x, "2 0 4 1", "2 0 5 1");
        x = fourSteps();
        x.rule(2, 0, 1, 0, 2);
        due("another state, behind step 1", x.lockStep(9), 2);
        stoppedAt(x, "2 1 2 3", "1 1 2 3");
        x = fourSteps();
        x.rule(1, 1, 0, 0, 1);
        due("another RIGHT, behind step 2", x.lockStep(9), 3);
        stoppedAt(x, "1 0 1 6", "1 0 1 7");
        x = fourSteps();
        x.rule(1, 1, 0, 0, 1);
        due("the steps end before it", x.lockStep(2), 0);
        stoppedAt(x, "1 1 2 3", "1 1 2 3");
        x = fourSteps();
        x.rule(2, 0, 1, 0, 5);
        due("a state without letters, behind step 1", x.lockStep(9), 2);
        stoppedAt(x, "5 1 2 3", "1 1 2 3");
        x = fourSteps();
        changeNextSymbols(x);
        due("another symbol", x.lockStep(1), 1);
        stoppedAt(x, "2 0 5 1", "2 1 5 1");
    }

    /** D1, D0, d1 .. t0 of (1 0) put the letters of the next state with the other symbol. */
    private static void changeNextSymbols(CountedWorkshop x) {
        for (int letter = 9; letter <= 16; letter++) {
            int place = letter == 10 ? 1 : 0;
            int v = x.production(letter, place);
            x.spoil(letter, place, v < 55 ? v + 18 : v - 18);
        }
    }

    private static void lockStepHaltsOnTheWay() {
        sentence("Promise 25", "or doesn't come");
        CountedWorkshop x = fourSteps();
        x.halts(7, true);
        due("halts on the way, in step 0", x.lockStep(9), 1);
        due("the configuration", configurationOf(x), "2 0 5 1");
        due("the word", x.tagLetter(0), 7);
        x = fourSteps();
        x.halts(25, true);
        due("halts on the way, in step 2", x.lockStep(9), 3);
        due("the configuration", configurationOf(x), "1 0 1 7");
        due("the word", x.tagLetter(0), 25);
        x = fourSteps();
        x.halts(25, true);
        due("the steps end before it", x.lockStep(2), 0);
    }

    /** From (1 1 0 0): A puts S S, and B nothing but x; what S puts is told by the one that asks. */
    private static CountedWorkshop runaway(int... ofS) {
        CountedWorkshop x = fourSteps();
        x.extend(19, 25);
        for (int i = 0; i < 4; i++) x.spoil(21, i, 0);
        for (int i = 0; i < ofS.length; i++) if (x.spoil(25, i, ofS[i]) == NONE) x.extend(25, ofS[i]);
        x.tape(1, 1, 0, 0);
        return x;
    }

    private static void lockStepBorderNeverComes() {
        sentence("Promise 25", "or doesn't come");
        CountedWorkshop x = runaway(26, 26);
        x.spoil(26, 0, 25);
        x.spoil(26, 1, 25);
        due("20000 steps are too few", x.lockStep(9), 1);
        due("the configuration", configurationOf(x), "1 0 0 1");
        due("the word behind 20000 steps", wordOf(x), "25 25");
        x = runaway(25, 25, 25, 25, 25, 25);
        due("the tag system's limit is not the tape's", x.lockStep(9), 1);
        due("the configuration", configurationOf(x), "1 0 0 1");
        due("the tag system is at its limit", x.tagNow(2), LIMIT);
    }

    private static void lockStepTagHalts() {
        sentence("Promise 25", "or the tape goes on where the tag system halts");
        CountedWorkshop x = fourSteps();
        x.halts(1, true);
        due("in step 0", x.lockStep(9), 1);
        stoppedAt(x, "2 0 5 1", "1 0 2 2");
        x = fourSteps();
        x.halts(37, true);
        due("in step 1", x.lockStep(9), 2);
        stoppedAt(x, "1 1 2 3", "2 0 5 1");
        x = fourSteps();
        x.halts(37, true);
        due("the steps end before it", x.lockStep(1), 0);
        x = fourSteps();
        x.rule(2, 1, 0, 1, 1);
        due("the tape halts no more, in step 4", x.lockStep(9), 5);
        x = walker(0, 0);
        x.compileTag();
        due("a round that comes back to the same code", x.lockStep(1), 0);
        x.halts(1, true);
        due("the border that is there already is not the next one", x.lockStep(1), 1);
        stoppedAt(x, "1 0 0 0", "1 0 0 0");
    }

    private static void lockStepTapeHalts() {
        sentence("Promise 25", "or, when the tape halts, if the tag system doesn't");
        CountedWorkshop x = fourSteps();
        x.halts(55, false);
        due("in step 4", x.lockStep(9), 5);
        stoppedAt(x, "2 1 3 3", "2 1 3 3");
        x = fourSteps();
        x.halts(55, false);
        due("the steps end before it", x.lockStep(4), 0);
        x = fourSteps();
        x.rule(1, 0, 0, 0, 0);
        due("in step 0", x.lockStep(9), 1);
        stoppedAt(x, "1 0 2 2", "1 0 2 2");
        x = fourSteps();
        x.tape(2, 1, 8, 9);
        due("both halt in step 0", x.lockStep(9), 0);
        stoppedAt(x, "2 1 8 9", "2 1 8 9");
        x = new CountedWorkshop();
        x.rule(1, 0, 0, 0, 0);
        x.rule(1, 1, 0, 0, 0);
        x.rule(3, 0, 0, 0, 1);
        x.compileTag();
        x.tape(2, 0, 8, 9);
        due("a state with letters and no rules", x.lockStep(9), 0);
        stoppedAt(x, "2 0 8 9", "2 0 8 9");
    }

    private static void lockStepLimit() {
        sentence("Promise 25", "LIMIT when the tape came to its limit before.");
        for (int move = 0; move < 2; move++) {
            String name = move == 1 ? "1 0 255 0" : "1 0 0 255";
            for (int n = 0; n <= 4; n++) {
                CountedWorkshop x = walker(1, move);
                x.tape(1, 0, move == 1 ? 63 : 0, move == 1 ? 0 : 63);
                x.compileTag();
                due("behind two steps, lockStep " + n, x.lockStep(n), n <= 2 ? 0 : LIMIT);
                if (n >= 2) stoppedAt(x, name, name);
            }
            CountedWorkshop x = walker(0, move);
            x.compileTag();
            x.tape(1, 1, 128, 128);
            due("at once", x.lockStep(1), LIMIT);
            stoppedAt(x, "1 1 128 128", "1 1 128 128");
            x.halts(19, true);
            due("though the tag system halts", x.lockStep(1), LIMIT);
            due("no step, no limit", x.lockStep(0), 0);
        }
    }

    private static void lockStepRefuses() {
        sentence("Promise 25", "NONE, changing nothing, when the tag system is not a made one");
        for (int n : new int[] {LEAST, 0, 1, 200}) {
            refused("no tag system", Bench::twoStates, x -> x.lockStep(n), NONE);
            refused("a user's system", Bench::busyOwn, x -> x.lockStep(n), NONE);
        }
        CountedWorkshop x = made();
        x.ownTag(289);
        due("a user's system in the place of a made one", x.lockStep(1), NONE);
        due("no word", x.tagNow(1), 0);
    }

    private static CountedWorkshop busyIn(int state) {
        CountedWorkshop x = busyMade();
        x.rule(3, 0, 1, 1, 1);
        x.rule(3, 1, 1, 1, 1);
        x.tape(state, 0, 3, 4);
        return x;
    }

    private static void lockStepWithoutLetters() {
        sentence("Promise 25", "or has no letters for the configuration's state");
        for (int each = 3; each <= 8; each++) {
            int state = each;
            for (int n : new int[] {0, 1}) refused("state " + state, () -> busyIn(state), x -> x.lockStep(n), NONE);
        }
        due("the last state that has letters", busyIn(2).lockStep(1), 0);
    }

    private static void lockStepLeavesTheCyclic() {
        sentence("Promise 25", "The configuration and the word are where they stopped.");
        CountedWorkshop x = busyMade();
        int bits = x.cyclicNow(1);
        x.lockStep(9);
        due("the cyclic system is where it was", x.cyclicNow(3), 3);
        due("its bits", x.cyclicNow(1), bits);
    }

    public static void main(String[] args) {
        decodeTagChanged();
        decodeTagOwn();
        decodeTagWhat();
        decodeTagWords();
        decodeTagMixedWords();
        decodeTagGreatNumbers();
        decodeCyclicBetween();
        decodeCyclicNoBlock();
        decodeCyclicBlocks();
        nextBorderAtLeastOne();
        nextBorderOwn();
        nextBorderHalts();
        nextBorderLimit();
        nextBorderTooFew();
        roundCostRefuses();
        roundCostWithoutStep();
        roundCostEnds();
        roundCostIsWhatItNeeds();
        lockStepAgrees();
        lockStepFromTheConfiguration();
        lockStepAtMost();
        lockStepAnotherCode();
        lockStepHaltsOnTheWay();
        lockStepBorderNeverComes();
        lockStepTagHalts();
        lockStepTapeHalts();
        lockStepLimit();
        lockStepRefuses();
        lockStepWithoutLetters();
        lockStepLeavesTheCyclic();
        end("ReadingBoundaryTest");
    }
}
