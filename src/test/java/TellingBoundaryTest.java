import java.util.function.Supplier;

/** The sentences of promises 1 to 12 that name a boundary case, each by a test of its own. */
public final class TellingBoundaryTest extends Bench {

    // ---- promise 1

    /** Each call by itself, the first one of a new object. */
    private static void first(String what, Deed call, Object want) { due(what, call.on(new CountedWorkshop()), want); }

    private static void newTape() {
        sentence("Promise 1", "No rules; state 1, symbol 0, LEFT and RIGHT 0");
        int[] configuration = {1, 0, 0, 0};
        for (int each = 0; each < 4; each++) {
            int what = each;
            first("tapeNow " + what, x -> x.tapeNow(what), configuration[what]);
        }
        first("tapeNow 4", x -> x.tapeNow(4), 0);
        first("stepTape", x -> x.stepTape(1), 0);
        first("compileTag", x -> x.compileTag(), 0);
        for (int each = 0; each < 16; each++) {
            int q = 1 + each / 2;
            int s = each % 2;
            first("roundCost", x -> x.roundCost(q, s, 0, 0), NONE);
            first("a configuration without a rule", x -> x.tape(q, s, 1, 1) ? x.tapeNow(4) : NONE, 0);
        }
        first("rule", x -> x.rule(1, 0, 0, 0, 1), true);
        first("tape", x -> x.tape(1, 0, 0, 0), true);
    }

    private static void newTag() {
        sentence("Promise 1", "no tag system and no cyclic one (L is 0, words are empty)");
        for (int each = 0; each < 3; each++) {
            int what = each;
            first("tagNow " + what, x -> x.tagNow(what), 0);
        }
        for (int each = 0; each < 4; each++) {
            int what = each;
            first("decodeTag " + what, x -> x.decodeTag(what), NONE);
        }
        first("ownTag 0", x -> x.ownTag(0), false);
        first("ownTag 1", x -> x.ownTag(1), true);
        first("extend", x -> x.extend(0, 0), false);
        first("spoil", x -> x.spoil(0, 0, 0), NONE);
        first("halts", x -> x.halts(0, true), false);
        first("halts no more", x -> x.halts(0, false), false);
        first("put", x -> x.put(0), false);
        first("production", x -> x.production(0, 0), NONE);
        first("stepTag", x -> x.stepTag(1), 0);
        first("tagLetter", x -> x.tagLetter(0), NONE);
        first("nextBorder", x -> x.nextBorder(), 0);
        for (int n : new int[] {LEAST, 0, 1, GREATEST}) first("lockStep " + n, x -> x.lockStep(n), NONE);
    }

    private static void newCyclic() {
        sentence("Promise 1", "no tag system and no cyclic one (L is 0, words are empty)");
        for (int each = 0; each < 4; each++) {
            int what = each;
            first("cyclicNow " + what, x -> x.cyclicNow(what), 0);
        }
        first("compileCyclic", x -> x.compileCyclic(), 0);
        first("appendant", x -> x.appendant(0, 0), NONE);
        first("stepCyclic", x -> x.stepCyclic(1), 0);
        first("cyclicBit", x -> x.cyclicBit(0), NONE);
        first("decodeCyclic", x -> x.decodeCyclic(0), NONE);
    }

    private static void newBesideOthers() {
        sentence("Promise 1", "No rules .. no tag system and no cyclic one");
        busyMade();
        full(4000, 3);
        refused("a used object beside a new one", CountedWorkshop::new, x -> busyOwn().tagNow(0), 3);
    }

    // ---- promise 2

    private static final int[][] RULE_RANGES = {{1, 8}, {0, 1}, {0, 1}, {0, 1}, {0, 8}};

    private static Deed ruleOf(int... r) { return x -> x.rule(r[0], r[1], r[2], r[3], r[4]); }

    private static void ruleRefused(String what, int... numbers) {
        refused(what, Bench::busyMade, ruleOf(numbers), false);
        refused(what + ", no tag system", Bench::twoStates, ruleOf(numbers), false);
    }

    private static void ruleRefuses() {
        sentence("Promise 2", "False, changing nothing, when a number is not as said.");
        for (int at = 0; at < RULE_RANGES.length; at++) {
            for (int bad : beyond(RULE_RANGES[at][0], RULE_RANGES[at][1])) {
                int[] numbers = {1, 0, 0, 0, 1};
                numbers[at] = bad;
                ruleRefused("number " + at + " is " + bad, numbers);
            }
        }
    }

    private static void ruleHaltRefuses() {
        sentence("Promise 2", "next 0 halts (write and move must be as said all the same)");
        for (int bad : beyond(0, 1)) {
            ruleRefused("a halt that writes " + bad, 1, 0, bad, 0, 0);
            ruleRefused("a halt that moves " + bad, 1, 0, 0, bad, 0);
        }
        for (int each = 0; each < 4; each++) {
            CountedWorkshop x = twoStates();
            due("a halt that is as said", x.rule(1, 0, each / 2, each % 2, 0), true);
            due("it halts", x.tapeNow(4), 0);
            due("no step", x.stepTape(1), 0);
        }
    }

    private static void ruleTakesTheEnds() {
        sentence("Promise 2", "The rule for a state and a symbol");
        for (int each = 0; each < 32; each++) {
            int q = each / 16 == 0 ? 1 : 8;
            int s = each / 8 % 2;
            int w = each / 4 % 2;
            int move = each / 2 % 2;
            int next = each % 2 == 0 ? 1 : 8;
            CountedWorkshop x = new CountedWorkshop();
            due("rule " + each, x.rule(q, s, w, move, next), true);
            x.tape(q, s, 5, 9);
            due("its step", x.stepTape(1), 1);
            due("the configuration", configurationOf(x),
                    move == 1 ? next + " 1 " + (10 + w) + " 4" : next + " 1 2 " + (18 + w));
        }
    }

    private static void ruleLeavesMadeSystems() {
        sentence("Promise 2", "Made systems stay as they are.");
        CountedWorkshop x = made();
        x.compileCyclic();
        for (int each = 0; each < 16; each++) due("a rule", x.rule(1 + each / 2, each % 2, 0, 0, 0), true);
        due("L", x.tagNow(0), 73);
        due("productions", productionOf(x, 1) + ", " + productionOf(x, 21), "5 0 6 0, 23 35 24 36");
        due("the word", decodedOf(x), "1 0 2 3");
        due("it goes on", x.tagNow(2), 1);
        due("up to the next border", x.nextBorder(), 23);
        due("the word", decodedOf(x), "2 1 5 1");
        due("appendants", x.cyclicNow(0), 146);
        due("rounds of the cyclic system, up to the halt", x.stepCyclic(20000), 23 * 146);
        x = made();
        x.rule(2, 1, 0, 1, 1);
        x.nextBorder();
        due("A still halts, though the rule does not", x.tagNow(2), 0);
        due("it has no production yet", x.production(55, 0), NONE);
    }

    // ---- promise 3

    private static void tapeRefuses() {
        sentence("Promise 3", "False, changing nothing, when a number is not as said.");
        int[][] ranges = {{1, 8}, {0, 1}, {0, 255}, {0, 255}};
        for (int at = 0; at < ranges.length; at++) {
            for (int bad : beyond(ranges[at][0], ranges[at][1])) {
                int[] c = {2, 1, 7, 8};
                c[at] = bad;
                Deed call = x -> x.tape(c[0], c[1], c[2], c[3]);
                refused("number " + at + " is " + bad, Bench::busyMade, call, false);
                refused("number " + at + " is " + bad + ", a user's system", Bench::busyOwn, call, false);
            }
        }
    }

    private static void tapeTakesTheEnds() {
        sentence("Promise 3", "The configuration");
        for (int each = 0; each < 16; each++) {
            int q = each / 8 == 0 ? 1 : 8;
            int s = each / 4 % 2;
            int l = each / 2 % 2 * 255;
            int r = each % 2 * 255;
            CountedWorkshop x = new CountedWorkshop();
            due("tape " + each, x.tape(q, s, l, r), true);
            due("configuration " + each, configurationOf(x), q + " " + s + " " + l + " " + r);
        }
    }

    private static void tapeLeavesTheWord() {
        sentence("Promise 3", "the tag system's word stays");
        CountedWorkshop x = made();
        x.compileCyclic();
        x.tape(2, 1, 0, 0);
        due("the word", wordOf(x), "1 0 2 0 2 0 3 0 4 0 4 0 4 0");
        due("the cyclic one's", x.cyclicNow(1), 14 * 73);
        due("it goes on as before", x.nextBorder(), 23);
    }

    // ---- promise 4

    private static void compileTagRefused(String what, Supplier<CountedWorkshop> recipe) {
        refused(what, recipe, x -> x.compileTag(), 0);
    }

    /** A user's system in the midst of things, with the rules of a row, five numbers each. */
    private static CountedWorkshop ownBeside(int state, int... rules) {
        CountedWorkshop x = own(row(1, 2), row(), row(0, 0, 0));
        putAll(x, 0, 0, 2, 0, 1);
        x.compileCyclic();
        x.stepCyclic(8);
        for (int i = 0; i < rules.length; i += 5) x.rule(rules[i], rules[i + 1], rules[i + 2], rules[i + 3], rules[i + 4]);
        x.tape(state, 0, 3, 4);
        return x;
    }

    private static void compileTagWithoutRules() {
        sentence("Promise 4", "0, and nothing is changed, when no rule was told");
        compileTagRefused("a new object", CountedWorkshop::new);
        for (int each = 1; each <= 8; each++) {
            int state = each;
            compileTagRefused("beside a user's system, state " + state, () -> ownBeside(state));
        }
    }

    private static void compileTagOfConfiguration() {
        sentence("Promise 4", "or one is missing: of a state that is .. the configuration's");
        compileTagRefused("both of state 2", () -> ownBeside(2, 1, 0, 0, 0, 1, 1, 1, 0, 0, 1));
        compileTagRefused("that of symbol 0", () -> ownBeside(1, 1, 1, 0, 0, 0));
        compileTagRefused("that of symbol 1", () -> ownBeside(1, 1, 0, 0, 0, 0));
        due("none", ownBeside(1, 1, 0, 0, 0, 0, 1, 1, 0, 0, 0).compileTag(), 37);
        Supplier<CountedWorkshop> strayed = () -> {
            CountedWorkshop x = busyMade();
            x.tape(3, 0, 1, 1);
            return x;
        };
        compileTagRefused("beside a made system", strayed);
    }

    private static void compileTagOfNextStates() {
        sentence("Promise 4", "or one is missing: of a state that is the next one of a rule");
        compileTagRefused("both of a next state",
                () -> ownBeside(1, 1, 0, 0, 0, 1, 1, 1, 0, 0, 8));
        compileTagRefused("the next one of symbol 0's rule",
                () -> ownBeside(1, 1, 0, 0, 0, 8, 1, 1, 0, 0, 1));
        compileTagRefused("symbol 0 of a next state",
                () -> ownBeside(1, 1, 0, 0, 0, 1, 1, 1, 0, 0, 2, 2, 1, 0, 0, 0));
        compileTagRefused("symbol 1 of a next state",
                () -> ownBeside(1, 1, 0, 0, 0, 1, 1, 1, 0, 0, 2, 2, 0, 0, 0, 0));
        compileTagRefused("of a rule that nothing comes to",
                () -> ownBeside(1, 1, 0, 0, 0, 1, 1, 1, 0, 0, 1, 5, 0, 0, 0, 6));
        compileTagRefused("of a state whose own next one it is",
                () -> ownBeside(1, 1, 0, 0, 0, 1, 1, 1, 0, 0, 1, 5, 0, 0, 0, 5));
        due("none, though of state 5 only one was told",
                ownBeside(1, 1, 0, 0, 0, 1, 1, 1, 0, 0, 1, 5, 0, 0, 0, 1).compileTag(), 181);
        due("none, as 0 is no state",
                ownBeside(1, 1, 0, 0, 0, 0, 1, 1, 0, 0, 1).compileTag(), 37);
        due("a rule that was told anew has another next state",
                ownBeside(1, 1, 0, 0, 0, 7, 1, 1, 0, 0, 1, 1, 0, 0, 0, 1).compileTag(), 37);
    }

    private static void cyclicIsGone(String what, CountedWorkshop x) {
        for (int each = 0; each < 4; each++) due(what + ", cyclicNow " + each, x.cyclicNow(each), 0);
        due(what + ", cyclicBit", x.cyclicBit(0), NONE);
        due(what + ", decodeCyclic", x.decodeCyclic(0), NONE);
        due(what + ", appendant 0", x.appendant(0, 0), NONE);
        due(what + ", appendant 1", x.appendant(1, 0), NONE);
        due(what + ", stepCyclic", x.stepCyclic(1), 0);
    }

    private static void compileTagEndsTheCyclic() {
        sentence("Promise 4", "the cyclic system is gone");
        CountedWorkshop x = busyOwn();
        due("in the place of a user's system", x.compileTag(), 73);
        cyclicIsGone("a made system", x);
        x = busyMade();
        due("in the place of a made one", x.compileTag(), 73);
        cyclicIsGone("a made system again", x);
        due("the word is the code", decodedOf(x), "1 0 2 3");
    }

    // ---- promise 5

    private static void ownTagRefuses() {
        sentence("Promise 5", "False for another number.");
        for (int bad : new int[] {0, -1, 301, LEAST, GREATEST}) {
            refused("ownTag " + bad, Bench::busyMade, x -> x.ownTag(bad), false);
            refused("ownTag " + bad + ", a user's", Bench::busyOwn, x -> x.ownTag(bad), false);
            refused("ownTag " + bad + ", a new object", CountedWorkshop::new, x -> x.ownTag(bad), false);
        }
    }

    /** As many letters as can be made, all with long productions, and many that halt. */
    private static CountedWorkshop longProductions() {
        CountedWorkshop x = new CountedWorkshop();
        x.ownTag(300);
        for (int v = 0; v < 300; v++) x.halts(v, true);
        for (int i = 0; i < 12; i++) for (int v : new int[] {0, 1, 150, 299}) x.extend(v, 299);
        putAll(x, 299, 299, 299);
        x.compileCyclic();
        return x;
    }

    private static void ownTagIsEmpty() {
        sentence("Promise 5", "with 1 .. 300 letters, empty productions, none that halts, an empty word");
        for (int letters : new int[] {1, 2, 299, 300}) {
            CountedWorkshop x = longProductions();
            due("ownTag " + letters, x.ownTag(letters), true);
            due("L", x.tagNow(0), letters);
            due("the word", x.tagNow(1), 0);
            due("its first letter", x.tagLetter(0), NONE);
            for (int v : new int[] {0, 1, 150, 299}) due("production of " + v, x.production(v, 0), NONE);
            due("the last letter", x.put(letters - 1), true);
            due("one behind it", x.put(letters), false);
        }
        for (int v = 0; v < 300; v++) {
            CountedWorkshop x = longProductions();
            x.ownTag(300);
            putAll(x, v, v);
            due("letter " + v + " does not halt", x.tagNow(2), 1);
        }
    }

    private static void ownTagEndsTheOthers() {
        sentence("Promise 5", "takes the place of the one before; the cyclic one is gone");
        CountedWorkshop x = busyMade();
        x.ownTag(73);
        cyclicIsGone("a user's system", x);
        putAll(x, 1, 0, 3, 0);
        due("what was a code is none", x.decodeTag(0), NONE);
        due("A of the halt is a letter like others", x.put(55), true);
        x = busyOwn();
        x.ownTag(3);
        cyclicIsGone("a user's system again", x);
    }

    // ---- promises 6 to 10

    /** An empty word, letter 1 with no production and letter 2 with the longest; 1 halts. */
    private static CountedWorkshop threeLetters() {
        CountedWorkshop x = own(row(1, 2), row(), twelve(2));
        x.halts(1, true);
        return x;
    }

    /** The same call on all kinds of systems that have the letters 0 to 2 and no more. */
    private static void refusedByThree(String what, Deed call, Object want) {
        refused(what, Bench::busyOwn, call, want);
        refused(what + ", an empty word", TellingBoundaryTest::threeLetters, call, want);
        refused(what + ", a new object", CountedWorkshop::new, call, want);
    }

    private static void extendRefuses() {
        sentence("Promise 6", "false when there are no such letters");
        for (int bad : beyond(0, 2)) {
            refusedByThree("of letter " + bad, x -> x.extend(bad, 0), false);
            refusedByThree("by letter " + bad, x -> x.extend(0, bad), false);
            refusedByThree("both are " + bad, x -> x.extend(bad, bad), false);
        }
        for (int bad : beyond(0, 72)) {
            refused("of a made one's letter " + bad, Bench::busyMade, x -> x.extend(bad, 0), false);
            refused("by a made one's letter " + bad, Bench::busyMade, x -> x.extend(0, bad), false);
        }
        CountedWorkshop x = threeLetters();
        due("the first and the last", x.extend(0, 2), true);
        due("the production", productionOf(x, 0), "1 2 2");
    }

    private static void extendTwelve() {
        sentence("Promise 6", "or it has 12 already");
        for (int each = 0; each < 3; each++) {
            int v = each;
            refused("a thirteenth letter " + v, TellingBoundaryTest::threeLetters, x -> x.extend(2, v), false);
        }
        CountedWorkshop x = threeLetters();
        for (int i = 0; i < 12; i++) due("letter " + i, x.extend(1, i % 3), true);
        due("a thirteenth", x.extend(1, 0), false);
        due("the production", productionOf(x, 1), "0 1 2 0 1 2 0 1 2 0 1 2");
        x = made();
        for (int i = 4; i < 12; i++) due("a made one's letter " + i, x.extend(1, 72), true);
        due("a made one's thirteenth", x.extend(1, 72), false);
        due("the made one's production", productionOf(x, 1), "5 0 6 0 72 72 72 72 72 72 72 72");
    }

    private static void spoilRefuses() {
        sentence("Promise 7", "NONE when there is none (or no letter v).");
        for (int bad : beyond(0, 2)) {
            refusedByThree("no letter " + bad, x -> x.spoil(bad, 0, 1), NONE);
            refusedByThree("no letter v " + bad, x -> x.spoil(0, 0, bad), NONE);
        }
        for (int bad : beyond(0, 1)) refusedByThree("place " + bad, x -> x.spoil(0, bad, 1), NONE);
        for (int bad : beyond(0, 11)) refusedByThree("place " + bad + " of twelve", x -> x.spoil(2, bad, 1), NONE);
        refusedByThree("of an empty production", x -> x.spoil(1, 0, 1), NONE);
        for (int bad : beyond(0, 72)) {
            refused("no letter " + bad + " of a made one", Bench::busyMade, x -> x.spoil(bad, 0, 1), NONE);
            refused("no letter v " + bad + " of a made one", Bench::busyMade, x -> x.spoil(1, 0, bad), NONE);
        }
    }

    private static void spoilTakesTheEnds() {
        sentence("Promise 7", "Letter i of a letter's production becomes v: what it was");
        CountedWorkshop x = threeLetters();
        due("the first", x.spoil(2, 0, 0), 2);
        due("the last", x.spoil(2, 11, 1), 2);
        due("the first again", x.spoil(2, 0, 2), 0);
        due("by what it is", x.spoil(2, 5, 2), 2);
        due("the production", productionOf(x, 2), "2 2 2 2 2 2 2 2 2 2 2 1");
        due("the one before", productionOf(x, 1), "");
    }

    private static void haltsRefuses() {
        sentence("Promise 8", "false when there is none");
        for (int bad : beyond(0, 2)) {
            refusedByThree("letter " + bad, x -> x.halts(bad, true), false);
            refusedByThree("letter " + bad + " no more", x -> x.halts(bad, false), false);
        }
        for (int bad : beyond(0, 72)) refused("a made one's " + bad, Bench::busyMade, x -> x.halts(bad, true), false);
    }

    private static void haltsFromNowOn() {
        sentence("Promise 8", "A letter halts from now on, or doesn't");
        for (int v : new int[] {0, 299}) {
            CountedWorkshop x = new CountedWorkshop();
            x.ownTag(300);
            putAll(x, v, v);
            due("letter " + v, x.halts(v, true), true);
            due("it halts", x.tagNow(2), 0);
            due("once more", x.halts(v, true), true);
            due("it halts still", x.tagNow(2), 0);
            due("no more", x.halts(v, false), true);
            due("it goes on", x.tagNow(2), 1);
        }
    }

    private static void putRefuses() {
        sentence("Promise 9", "false when there is no such letter");
        for (int bad : beyond(0, 2)) refusedByThree("letter " + bad, x -> x.put(bad), false);
        for (int bad : beyond(0, 72)) refused("a made one's " + bad, Bench::busyMade, x -> x.put(bad), false);
    }

    private static void putFull() {
        sentence("Promise 9", "or 4000 are there");
        refused("a full word", () -> full(4000, 2), x -> x.put(0), false);
        CountedWorkshop x = full(3998, 0);
        due("the last but one", x.put(0), true);
        due("the last", x.put(2), true);
        due("it is in its place", x.tagLetter(3999), 2);
        due("one more", x.put(2), false);
        due("letters", x.tagNow(1), 4000);
        x.stepTag(1);
        due("room again", x.put(0), true);
        due("and again", x.put(0), true);
        due("full again", x.put(0), false);
    }

    private static void productionNone() {
        sentence("Promise 10", "NONE past its end, and when there is no such letter.");
        for (int i = 0; i < 12; i++) due("letter " + i + " of twelve", threeLetters().production(2, i), 2);
        for (int bad : beyond(0, 11)) due("letter " + bad + " of twelve", threeLetters().production(2, bad), NONE);
        for (int bad : beyond(0, 1)) due("letter " + bad + " of two", threeLetters().production(0, bad), NONE);
        for (int bad : beyond(0, -1)) due("letter " + bad + " of none", threeLetters().production(1, bad), NONE);
        for (int bad : beyond(0, 2)) due("of letter " + bad, threeLetters().production(bad, 0), NONE);
        CountedWorkshop x = longProductions();
        x.ownTag(2);
        for (int v : new int[] {0, 1, 150, 299}) due("of the system before", x.production(v, 0), NONE);
        x.extend(0, 1);
        due("its only one", x.production(0, 0), 1);
        due("behind it", x.production(0, 1), NONE);
    }

    // ---- promises 11 and 12

    private static void compileCyclicRefuses() {
        sentence("Promise 11", "0, changing nothing, when there is no tag system");
        refused("a new object", CountedWorkshop::new, x -> x.compileCyclic(), 0);
        refused("rules and a configuration alone", Bench::twoStates, x -> x.compileCyclic(), 0);
        CountedWorkshop x = new CountedWorkshop();
        x.ownTag(0);
        x.compileTag();
        due("none came of what was refused", x.compileCyclic(), 0);
    }

    private static void compileCyclicAsItIsNow() {
        sentence("Promise 11", "The cyclic system is made of the tag system as it is now, with its word");
        int[] letters = {1, 2, 300};
        for (int n : letters) {
            CountedWorkshop x = new CountedWorkshop();
            x.ownTag(n);
            due("appendants, the word empty", x.compileCyclic(), 2 * n);
            due("bits", x.cyclicNow(1), 0);
            x.put(n - 1);
            due("made anew", x.compileCyclic(), 2 * n);
            due("one block", x.cyclicNow(1), n);
            due("its last bit", x.cyclicBit(n - 1), 1);
        }
        CountedWorkshop x = full(4000, 2);
        due("of a full word", x.compileCyclic(), 6);
        due("its bits", x.cyclicNow(1), 12000);
        x.stepCyclic(5);
        due("once more", x.compileCyclic(), 6);
        due("from the beginning", x.cyclicNow(3), 0);
        due("the bits", x.cyclicNow(1), 12000);
        due("the tag system stays", x.tagNow(1), 4000);
    }

    private static void appendantNone() {
        sentence("Promise 12", "NONE past its end, and when there is none.");
        CountedWorkshop x = threeLetters();
        due("before it is made", x.appendant(0, 0), NONE);
        x.compileCyclic();
        due("0", appendantOf(x, 0), "010001");
        due("the last bit of twelve blocks", x.appendant(2, 35), 1);
        for (int bad : beyond(0, 35)) due("bit " + bad + " of 36", x.appendant(2, bad), NONE);
        for (int bad : beyond(0, 5)) due("bit " + bad + " of 6", x.appendant(0, bad), NONE);
        for (int k : new int[] {1, 3, 4, 5}) due("appendant " + k + " is empty", x.appendant(k, 0), NONE);
        for (int bad : beyond(0, 5)) due("appendant " + bad, x.appendant(bad, 0), NONE);
        x.extend(1, 0);
        due("as it was made", x.appendant(1, 0), NONE);
        x = longProductions();
        due("the last bit of the greatest", x.appendant(299, 3599), 1);
        due("one behind it", x.appendant(299, 3600), NONE);
        due("an empty one", x.appendant(300, 0), NONE);
        due("the last one", x.appendant(599, 0), NONE);
    }

    public static void main(String[] args) {
        newTape();
        newTag();
        newCyclic();
        newBesideOthers();
        ruleRefuses();
        ruleHaltRefuses();
        ruleTakesTheEnds();
        ruleLeavesMadeSystems();
        tapeRefuses();
        tapeTakesTheEnds();
        tapeLeavesTheWord();
        compileTagWithoutRules();
        compileTagOfConfiguration();
        compileTagOfNextStates();
        compileTagEndsTheCyclic();
        ownTagRefuses();
        ownTagIsEmpty();
        ownTagEndsTheOthers();
        extendRefuses();
        extendTwelve();
        spoilRefuses();
        spoilTakesTheEnds();
        haltsRefuses();
        haltsFromNowOn();
        putRefuses();
        putFull();
        productionNone();
        compileCyclicRefuses();
        compileCyclicAsItIsNow();
        appendantNone();
        end("TellingBoundaryTest");
    }
}
