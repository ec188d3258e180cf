import java.util.List;
import java.util.function.Supplier;

/** The sentences of promises 13 to 20 that name a boundary case, each by a test of its own. */
public final class GoingBoundaryTest extends Bench {
    private static final String STEPS = "at most n (up to 20000, 0 below 0) steps";
    private static final String STOPS = "it stops when it halts (a missing rule halts) or before its LIMIT";

    // ---- promises 13 to 15: how many

    /** Two states that go to and fro for ever. */
    private static CountedWorkshop endlessTape() {
        CountedWorkshop x = new CountedWorkshop();
        for (int s = 0; s < 2; s++) {
            x.rule(1, s, s, 1, 2);
            x.rule(2, s, s, 0, 3);
            x.rule(3, s, s, 1, 1);
        }
        return x;
    }

    /** A word that comes back every three steps. */
    private static CountedWorkshop endlessTag() {
        CountedWorkshop x = own(row(1, 1), row(2, 2), row(0, 0));
        putAll(x, 0, 0);
        return x;
    }

    private static CountedWorkshop endlessCyclic() {
        CountedWorkshop x = endlessTag();
        x.compileCyclic();
        return x;
    }

    private static void noSteps(String what, Supplier<CountedWorkshop> recipe, Deed call) {
        refused(what, recipe, call, 0);
    }

    private static void stepsBelowOne() {
        for (int n : new int[] {0, -1, -20000, LEAST}) {
            sentence("Promise 13", STEPS);
            noSteps("stepTape " + n, GoingBoundaryTest::endlessTape, x -> x.stepTape(n));
            sentence("Promise 14", "Likewise the tag system.");
            noSteps("stepTag " + n, GoingBoundaryTest::endlessTag, x -> x.stepTag(n));
            sentence("Promise 15", "Likewise the cyclic system");
            noSteps("stepCyclic " + n, GoingBoundaryTest::endlessCyclic, x -> x.stepCyclic(n));
        }
    }

    private static void stepsAboveMost() {
        for (int n : new int[] {1, 2, 19999, 20000, 20001, 40000, GREATEST}) {
            int due = Math.min(n, 20000);
            sentence("Promise 13", STEPS);
            CountedWorkshop x = endlessTape();
            due("stepTape " + n, x.stepTape(n), due);
            due("the state behind it", x.tapeNow(0), 1 + due % 3);
            sentence("Promise 14", "Likewise the tag system.");
            x = endlessTag();
            due("stepTag " + n, x.stepTag(n), due);
            due("the word behind it", wordOf(x), due % 3 + " " + due % 3);
            sentence("Promise 15", "Likewise the cyclic system");
            x = endlessCyclic();
            due("stepCyclic " + n, x.stepCyclic(n), due);
            due("the turn behind it", x.cyclicNow(3), due % 6);
            // Six steps are a round, and behind three rounds the word is the same again.
            CountedWorkshop y = endlessCyclic();
            y.stepCyclic(due % 18);
            due("the bits behind it", bitsOf(x), bitsOf(y));
        }
    }

    // ---- promises 13 to 15: where it stops

    private static void tapeStops() {
        sentence("Promise 13", STOPS);
        noSteps("a new object", CountedWorkshop::new, x -> x.stepTape(9));
        CountedWorkshop x = twoStates();
        due("up to a rule that halts", x.stepTape(20000), 1);
        due("the configuration", configurationOf(x), "2 1 5 1");
        due("no step more", x.stepTape(1), 0);
        due("the configuration stays", configurationOf(x), "2 1 5 1");
        x.rule(1, 0, 1, 1, 6);
        x.tape(1, 0, 2, 3);
        due("up to a missing rule", x.stepTape(20000), 1);
        due("the configuration", configurationOf(x), "6 1 5 1");
        x = walker(1, 1);
        x.tape(1, 0, 31, 0);
        due("up to its limit to the right", x.stepTape(20000), 3);
        due("the configuration", configurationOf(x), "1 0 255 0");
        due("no step more", x.stepTape(1), 0);
        due("the configuration stays", configurationOf(x), "1 0 255 0");
        x = walker(0, 0);
        x.tape(1, 0, 0, 32);
        due("up to its limit to the left", x.stepTape(20000), 2);
        due("the configuration", configurationOf(x), "1 0 0 128");
    }

    private static void tagStops() {
        sentence("Promise 14", "Likewise the tag system.");
        noSteps("a new object", CountedWorkshop::new, x -> x.stepTag(9));
        noSteps("an empty word", () -> own(row(0)), x -> x.stepTag(9));
        CountedWorkshop x = own(row(1), row());
        putAll(x, 0, 0, 0);
        due("up to a word of one", x.stepTag(20000), 2);
        due("the word", wordOf(x), "1");
        x = own(row(1), row());
        putAll(x, 1, 1);
        due("up to an empty word", x.stepTag(20000), 1);
        due("the word", wordOf(x), "");
        x = own(row(1, 1), row(2, 2), row());
        x.halts(2, true);
        putAll(x, 0, 0);
        due("up to a letter that halts", x.stepTag(20000), 2);
        due("the word", wordOf(x), "2 2");
        due("no step more", x.stepTag(1), 0);
        noSteps("at its limit", () -> full(4000, 3), y -> y.stepTag(9));
        x = full(3998, 3);
        due("up to its limit", x.stepTag(20000), 2);
        due("letters", x.tagNow(1), 4000);
        x = full(4000, 2);
        due("a full word that stays so", x.stepTag(20000), 20000);
        due("letters", x.tagNow(1), 4000);
    }

    private static void cyclicStops() {
        sentence("Promise 15", "Likewise the cyclic system");
        noSteps("a new object", CountedWorkshop::new, x -> x.stepCyclic(9));
        noSteps("no cyclic system", GoingBoundaryTest::endlessTag, x -> x.stepCyclic(9));
        CountedWorkshop x = own(row(1), row());
        putAll(x, 0, 0, 0);
        x.compileCyclic();
        due("up to one block", x.stepCyclic(20000), 8);
        due("bits", bitsOf(x), "01");
        x = own(row(1), row());
        putAll(x, 1, 1);
        x.compileCyclic();
        due("up to an empty word", x.stepCyclic(20000), 4);
        due("bits", bitsOf(x), "");
        x = own(row(1, 1), row(2, 2), row());
        x.halts(2, true);
        putAll(x, 0, 0);
        x.compileCyclic();
        due("up to a letter that halts", x.stepCyclic(20000), 12);
        due("bits", bitsOf(x), "001001");
        x = full(3998, 3);
        x.compileCyclic();
        due("up to its limit", x.stepCyclic(20000), 12);
        due("bits", x.cyclicNow(1), 12000);
        due("no step more", x.stepCyclic(1), 0);
        due("bits", x.cyclicNow(1), 12000);
        x = full(4000, 2);
        x.compileCyclic();
        due("a full word that stays so", x.stepCyclic(20000), 20000);
        due("bits", x.cyclicNow(1), 12000 + 4);
    }

    private static void cyclicAsItWasMade() {
        sentence("Promise 15", "as it was made (the tag system may be another one by now)");
        CountedWorkshop x = endlessCyclic();
        x.extend(0, 0);
        x.spoil(1, 0, 0);
        x.halts(2, true);
        x.put(1);
        x.stepTag(1);
        due("steps", x.stepCyclic(18), 18);
        due("the word is the same again", bitsOf(x), "100100");
        due("and goes on", x.stepCyclic(20000), 20000);
        due("appendant 0", appendantOf(x, 0), "010010");
        due("appendant 1", appendantOf(x, 1), "001001");
        x = endlessTag();
        x.halts(0, true);
        x.compileCyclic();
        x.halts(0, false);
        due("a letter that halted when it was made", x.stepCyclic(1), 0);
        x = busyMade();
        int bits = x.cyclicNow(1);
        x.tape(1, 1, 0, 0);
        x.lockStep(1);
        x.nextBorder();
        due("the tag system's ways change no bits", x.cyclicNow(1), bits);
        due("nor the turn", x.cyclicNow(3), 3);
    }

    // ---- promises 16 to 20

    private static void anotherWhat() {
        List<Supplier<CountedWorkshop>> recipes = List.of(CountedWorkshop::new, Bench::busyMade, Bench::busyOwn);
        for (Supplier<CountedWorkshop> recipe : recipes) {
            sentence("Promise 16", "NONE for another what.");
            for (int bad : beyond(0, 4)) due("tapeNow " + bad, recipe.get().tapeNow(bad), NONE);
            sentence("Promise 17", "what 0 L, 1 letters of the word, 2 as for the tape");
            for (int bad : beyond(0, 2)) due("tagNow " + bad, recipe.get().tagNow(bad), NONE);
            sentence("Promise 18", "what 0 appendants .. 3 whose turn it is");
            for (int bad : beyond(0, 3)) due("cyclicNow " + bad, recipe.get().cyclicNow(bad), NONE);
        }
    }

    private static void tapeGoesOn() {
        sentence("Promise 16", "4 whether it can go on: 1 yes, 0 it halts, LIMIT");
        CountedWorkshop x = twoStates();
        due("yes", x.tapeNow(4), 1);
        x.tape(2, 1, 0, 0);
        due("a rule that halts", x.tapeNow(4), 0);
        x.tape(8, 0, 0, 0);
        due("a missing rule", x.tapeNow(4), 0);
        x.tape(1, 0, 128, 0);
        due("the limit to the right", x.tapeNow(4), LIMIT);
        x.tape(1, 0, 127, 255);
        due("one before it", x.tapeNow(4), 1);
        x.tape(1, 1, 0, 128);
        due("the limit to the left", x.tapeNow(4), LIMIT);
        x.tape(1, 1, 255, 127);
        due("one before it", x.tapeNow(4), 1);
    }

    private static void tagGoesOn() {
        sentence("Promise 17", "2 as for the tape");
        due("yes", endlessTag().tagNow(2), 1);
        due("no tag system", new CountedWorkshop().tagNow(2), 0);
        due("no word", own(row()).tagNow(2), 0);
        CountedWorkshop x = own(row());
        x.put(0);
        due("one letter", x.tagNow(2), 0);
        due("the limit", full(4000, 3).tagNow(2), LIMIT);
        due("one before it", full(3999, 3).tagNow(2), 1);
    }

    private static void cyclicGoesOn() {
        sentence("Promise 18", "2 as for the tape (1 where it is not at a border, as long as there is a bit)");
        CountedWorkshop x = own(row(), row());
        x.halts(1, true);
        putAll(x, 0, 1);
        x.compileCyclic();
        for (int step = 0; step < 4; step++) {
            due("behind " + step + " steps", x.cyclicNow(2), 1);
            due("bits", x.cyclicNow(1), 4 - step);
            due("a step", x.stepCyclic(1), 1);
        }
        due("no bit", x.cyclicNow(1), 0);
        due("it halts", x.cyclicNow(2), 0);
        x = full(4000, 3);
        x.compileCyclic();
        due("the limit", x.cyclicNow(2), LIMIT);
        x = full(3999, 3);
        x.compileCyclic();
        due("one before it", x.cyclicNow(2), 1);
        due("no cyclic system", endlessTag().cyclicNow(2), 0);
    }

    private static void tagLetterNone() {
        sentence("Promise 19", "NONE when there is none.");
        CountedWorkshop x = own(row(1), row());
        due("an empty word", x.tagLetter(0), NONE);
        putAll(x, 0, 1, 1);
        due("the last", x.tagLetter(2), 1);
        for (int bad : beyond(0, 2)) due("letter " + bad + " of three", x.tagLetter(bad), NONE);
        x.stepTag(1);
        due("the last behind a step", x.tagLetter(1), 1);
        for (int bad : beyond(0, 1)) due("letter " + bad + " of two", x.tagLetter(bad), NONE);
        x = full(4000, 2);
        // Many steps bring the word's front round to the end of the place where it is kept.
        for (int step = 0; step < 5; step++) {
            due("the first of 4000", x.tagLetter(0), 1);
            due("the last of 4000", x.tagLetter(3999), 1);
            for (int bad : beyond(0, 3999)) due("letter " + bad + " of 4000", x.tagLetter(bad), NONE);
            x.stepTag(777);
        }
    }

    /** A step takes two letters and puts the same to the end, so that the word goes round. */
    private static void wordGoesRound() {
        sentence("Promise 19", "Letter i of the word");
        CountedWorkshop x = new CountedWorkshop();
        x.ownTag(10);
        for (int v = 0; v < 10; v += 2) {
            x.extend(v, v);
            x.extend(v, v + 1);
        }
        for (int v = 0; v < 10; v++) x.put(v);
        for (int rounds = 0; rounds < 3; rounds++) {
            due("steps", x.stepTag(5 * 409), 5 * 409);
            due("the word", wordOf(x), "0 1 2 3 4 5 6 7 8 9");
        }
        x.stepTag(4);
        due("the word", wordOf(x), "8 9 0 1 2 3 4 5 6 7");
    }

    private static void cyclicBitNone() {
        sentence("Promise 20", "NONE when there is none.");
        CountedWorkshop x = own(row(1), row());
        putAll(x, 0, 1, 1);
        due("no cyclic system", x.cyclicBit(0), NONE);
        x.compileCyclic();
        due("the last", x.cyclicBit(5), 1);
        for (int bad : beyond(0, 5)) due("bit " + bad + " of six", x.cyclicBit(bad), NONE);
        x.stepCyclic(1);
        due("behind a step", bitsOf(x), "0010101");
        for (int bad : beyond(0, 6)) due("bit " + bad + " of seven", x.cyclicBit(bad), NONE);
        x.stepCyclic(3);
        due("at the next border", bitsOf(x), "0101");
        for (int bad : beyond(0, 3)) due("bit " + bad + " of four", x.cyclicBit(bad), NONE);
        x.stepCyclic(4);
        for (int bad : beyond(0, -1)) due("bit " + bad + " of none", x.cyclicBit(bad), NONE);
        x = full(4000, 2);
        x.compileCyclic();
        due("the last of 12000", x.cyclicBit(11998) + x.cyclicBit(11999), 1);
        for (int bad : beyond(0, 11999)) due("bit " + bad + " of 12000", x.cyclicBit(bad), NONE);
    }

    public static void main(String[] args) {
        stepsBelowOne();
        stepsAboveMost();
        tapeStops();
        tagStops();
        cyclicStops();
        cyclicAsItWasMade();
        anotherWhat();
        tapeGoesOn();
        tagGoesOn();
        cyclicGoesOn();
        tagLetterNone();
        wordGoesRound();
        cyclicBitNone();
        end("GoingBoundaryTest");
    }
}
