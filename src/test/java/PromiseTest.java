/** Each promise of the document by answers that were worked out by hand. */
public final class PromiseTest extends Bench {
    private static void due(int promise, String what, Object got, Object want) {
        look("promise " + promise, what, got, want);
    }

    private static void newObject() {
        due(1, "NONE", NONE, -1);
        due(1, "LIMIT", LIMIT, -2);
        CountedWorkshop x = new CountedWorkshop();
        due(1, "the configuration", configurationOf(x), "1 0 0 0");
        due(1, "a rule that is missing halts", x.tapeNow(4), 0);
        due(1, "L", x.tagNow(0), 0);
        due(1, "the word", x.tagNow(1), 0);
        due(1, "the tag system halts", x.tagNow(2), 0);
        for (int what = 0; what < 4; what++) due(1, "cyclicNow " + what, x.cyclicNow(what), 0);
        due(1, "no rule to make a system of", x.compileTag(), 0);
        due(1, "no tag system to make one of", x.compileCyclic(), 0);
        due(1, "letters of the word", x.tagLetter(0), NONE);
        due(1, "bits of the word", x.cyclicBit(0), NONE);
        due(1, "productions", x.production(0, 0), NONE);
        due(1, "appendants", x.appendant(0, 0), NONE);
        due(1, "letter 0 for a production", x.extend(0, 0), false);
        due(1, "letter 0 for the word", x.put(0), false);
        due(1, "letter 0 that halts", x.halts(0, true), false);
        due(1, "steps of the tape", x.stepTape(5), 0);
        due(1, "steps of the tag system", x.stepTag(5), 0);
        due(1, "steps of the cyclic system", x.stepCyclic(5), 0);
        due(1, "borders", x.nextBorder(), 0);
        due(1, "lockStep", x.lockStep(5), NONE);
    }

    private static void rule() {
        CountedWorkshop x = twoStates();
        int[][] bad = {
            {0, 0, 0, 0, 0}, {9, 0, 0, 0, 0}, {LEAST, 0, 0, 0, 0}, {GREATEST, 0, 0, 0, 0},
            {1, -1, 0, 0, 0}, {1, 2, 0, 0, 0}, {1, 0, -1, 0, 0}, {1, 0, 2, 0, 0}, {1, 0, 0, -1, 0},
            {1, 0, 0, 2, 0}, {1, 0, 0, 0, -1}, {1, 0, 0, 0, 9}, {1, 0, GREATEST, 0, 1}, {1, 0, 0, LEAST, 1},
        };
        for (int[] r : bad) due(2, "a wrong rule", x.rule(r[0], r[1], r[2], r[3], r[4]), false);
        due(2, "nothing was changed", x.roundCost(1, 0, 2, 3), 23);
        due(2, "state 8 and next 8", x.rule(8, 1, 1, 1, 8), true);
        due(2, "halting", x.rule(1, 0, 0, 0, 0), true);
        due(2, "halts now", x.tapeNow(4), 0);
        x = made();
        x.compileCyclic();
        due(2, "another rule", x.rule(1, 0, 0, 0, 2), true);
        due(2, "the made system stays", productionOf(x, 1), "5 0 6 0");
        due(2, "the cyclic one stays", x.cyclicNow(0), 146);
        due(2, "the tape has the new one", x.roundCost(1, 0, 2, 3), 2 + 3 + 2 + 2 * (6 + 0 + 2 + 1));
    }

    private static void tape() {
        CountedWorkshop x = made();
        int[][] bad = {
            {0, 0, 0, 0}, {9, 0, 0, 0}, {1, -1, 0, 0}, {1, 2, 0, 0}, {1, 0, -1, 0}, {1, 0, 256, 0},
            {1, 0, 0, -1}, {1, 0, 0, 256}, {LEAST, 0, 0, 0}, {1, GREATEST, 0, 0}, {1, 0, LEAST, GREATEST},
        };
        for (int[] c : bad) due(3, "a wrong configuration", x.tape(c[0], c[1], c[2], c[3]), false);
        due(3, "nothing was changed", configurationOf(x), "1 0 2 3");
        due(3, "the greatest", x.tape(8, 1, 255, 255), true);
        due(3, "the configuration", configurationOf(x), "8 1 255 255");
        due(3, "the word stays", decodedOf(x), "1 0 2 3");
        due(3, "the least", x.tape(1, 0, 0, 0), true);
        due(3, "the configuration", configurationOf(x), "1 0 0 0");
    }

    private static final String[] RIGHT_WITH_1 = {
        "5 0 6 0", "6 0 6 0", "7", "8", "9 10", "11 12", "13 14", "15 16", "55 0", "0 37 0", "56 0", "38 0",
        "57 0", "39 0", "58 0", "40 0", "", "",
    };
    private static final String[] LEFT_WITH_1 = {
        "25", "26", "23 35 24 36", "24 36 24 36", "27 0", "29 0", "31 32", "33 34", "21 0", "3 0", "22 0", "4 0",
        "19 0", "1 0", "20 0", "2 0", "0 28 0", "30 0",
    };

    private static void compileTagProductions() {
        CountedWorkshop x = twoStates();
        due(4, "letters", x.compileTag(), 73);
        due(4, "x", productionOf(x, 0), "");
        for (int j = 0; j < 18; j++) {
            due(4, "to the right, " + j, productionOf(x, 1 + j), RIGHT_WITH_1[j]);
            due(4, "to the left, " + j, productionOf(x, 19 + j), LEFT_WITH_1[j]);
            due(4, "halting, " + j, productionOf(x, 55 + j), "");
        }
        due(4, "the word", wordOf(x), "1 0 2 0 2 0 3 0 4 0 4 0 4 0");
        x.rule(1, 0, 0, 1, 2);
        x.rule(1, 1, 0, 0, 1);
        x.compileTag();
        due(4, "to the right with 0", productionOf(x, 1), "5 0");
        due(4, "to the left with 0", productionOf(x, 21), "23 35");
        due(4, "to the left with 0, b", productionOf(x, 22), "24 36 24 36");
    }

    private static void compileTagHalts() {
        CountedWorkshop x = twoStates();
        x.tape(2, 1, 0, 0);
        due(4, "letters", x.compileTag(), 73);
        due(4, "the word", wordOf(x), "55 0 57 0");
        due(4, "A halts", x.tagNow(2), 0);
        x.tape(2, 0, 0, 0);
        x.compileTag();
        due(4, "another A does not", x.tagNow(2), 1);
        x = new CountedWorkshop();
        x.rule(1, 0, 0, 0, 0);
        x.rule(1, 1, 0, 0, 0);
        x.rule(3, 0, 0, 0, 1);
        due(4, "a state with one rule that nothing comes to", x.compileTag(), 109);
        x.stepTag(9);
        x.tape(3, 1, 0, 0);
        x.lockStep(0);
        due(4, "A of a missing rule halts", x.tagNow(2), 0);
        x.tape(2, 0, 0, 0);
        x.lockStep(0);
        due(4, "A of a state without rules halts", x.tagNow(2), 0);
    }

    private static void compileTagRefuses() {
        CountedWorkshop x = made();
        x.compileCyclic();
        x.stepCyclic(3);
        x.tape(3, 0, 1, 1);
        due(4, "the configuration's rules are missing", x.compileTag(), 0);
        x.rule(3, 0, 0, 0, 3);
        due(4, "one of them is missing", x.compileTag(), 0);
        x.tape(1, 0, 9, 9);
        due(4, "one of a next state is missing", x.compileTag(), 0);
        due(4, "L is as before", x.tagNow(0), 73);
        due(4, "the word is as before", decodedOf(x), "1 0 2 3");
        due(4, "the cyclic system is as before", x.cyclicNow(3), 3);
        x.rule(3, 1, 0, 0, 0);
        due(4, "all are there", x.compileTag(), 109);
        due(4, "the word", decodedOf(x), "1 0 9 9");
        for (int what = 0; what < 4; what++) due(4, "the cyclic system is gone", x.cyclicNow(what), 0);
        due(4, "and its appendants", x.appendant(1, 0), NONE);
        x.rule(3, 0, 0, 0, 8);
        due(4, "a next state without rules", x.compileTag(), 0);
        x.rule(8, 0, 0, 0, 0);
        due(4, "with one rule", x.compileTag(), 0);
        x.rule(8, 1, 0, 0, 0);
        x.tape(8, 0, 255, 255);
        due(4, "all states", x.compileTag(), 289);
        due(4, "the longest code", x.tagNow(1), 1024);
        x = new CountedWorkshop();
        x.rule(1, 1, 0, 0, 1);
        due(4, "the rule of symbol 0 is missing", x.compileTag(), 0);
        x.rule(1, 0, 0, 0, 2);
        due(4, "those of its next state are missing", x.compileTag(), 0);
        x.rule(1, 0, 0, 0, 0);
        due(4, "that rule is no more", x.compileTag(), 37);
    }

    private static void ownTag() {
        CountedWorkshop x = made();
        x.compileCyclic();
        for (int bad : new int[] {0, -1, 301, LEAST, GREATEST}) due(5, "ownTag " + bad, x.ownTag(bad), false);
        due(5, "nothing was changed", x.tagNow(0), 73);
        due(5, "nor the word", decodedOf(x), "1 0 2 3");
        due(5, "nor the cyclic system", x.cyclicNow(0), 146);
        x.stepCyclic(3);
        x.halts(5, true);
        due(5, "ownTag 300", x.ownTag(300), true);
        due(5, "L", x.tagNow(0), 300);
        due(5, "the word is empty", x.tagNow(1), 0);
        due(5, "the productions are empty", productionOf(x, 1) + productionOf(x, 299), "");
        putAll(x, 5, 5);
        due(5, "no letter halts", x.stepTag(1), 1);
        for (int what = 0; what < 4; what++) due(5, "the cyclic system is gone", x.cyclicNow(what), 0);
        due(5, "the last letter", x.extend(299, 299), true);
        due(5, "one behind it", x.extend(299, 300), false);
        due(5, "ownTag 1", x.ownTag(1), true);
        due(5, "L", x.tagNow(0), 1);
        x.extend(0, 0);
        x.halts(0, true);
        x.ownTag(1);
        due(5, "an empty production again", productionOf(x, 0), "");
        putAll(x, 0, 0);
        due(5, "no letter halts again", x.tagNow(2), 1);
    }

    private static void extend() {
        CountedWorkshop x = new CountedWorkshop();
        x.ownTag(300);
        for (int i = 0; i < 12; i++) due(6, "letter " + i, x.extend(7, 288 + i), true);
        due(6, "a thirteenth", x.extend(7, 0), false);
        due(6, "the production", productionOf(x, 7), "288 289 290 291 292 293 294 295 296 297 298 299");
        due(6, "the ones beside it", productionOf(x, 6) + productionOf(x, 8), "");
        for (int bad : new int[] {-1, 300, LEAST, GREATEST}) {
            due(6, "no such letter", x.extend(bad, 0), false);
            due(6, "no such letter to put", x.extend(0, bad), false);
        }
        due(6, "nothing was put", productionOf(x, 0), "");
        x = made();
        due(6, "of a made system", x.extend(1, 72), true);
        due(6, "its production", productionOf(x, 1), "5 0 6 0 72");
        due(6, "not 73", x.extend(1, 73), false);
    }

    private static void spoil() {
        CountedWorkshop x = own(row(0, 1, 2, 0, 1, 2, 0, 1, 2, 0, 1, 2), row(), row(1));
        due(7, "the first", x.spoil(0, 0, 2), 0);
        due(7, "the sixth", x.spoil(0, 5, 1), 2);
        due(7, "the seventh", x.spoil(0, 6, 1), 0);
        due(7, "the last", x.spoil(0, 11, 0), 2);
        due(7, "the production", productionOf(x, 0), "2 1 2 0 1 1 1 1 2 0 1 0");
        due(7, "past the end", x.spoil(0, 12, 0), NONE);
        due(7, "before the front", x.spoil(0, -1, 0), NONE);
        due(7, "of an empty one", x.spoil(1, 0, 0), NONE);
        due(7, "past the end of a short one", x.spoil(2, 1, 0), NONE);
        due(7, "no letter v", x.spoil(2, 0, 3), NONE);
        due(7, "no letter v", x.spoil(2, 0, -1), NONE);
        due(7, "no letter", x.spoil(3, 0, 0), NONE);
        due(7, "no letter", x.spoil(LEAST, 0, 0), NONE);
        due(7, "far off", x.spoil(GREATEST, GREATEST, GREATEST), NONE);
        due(7, "nothing was changed", productionOf(x, 2), "1");
    }

    private static void halts() {
        CountedWorkshop x = own(row(0, 0, 0), row());
        putAll(x, 0, 1);
        due(8, "letter 0", x.halts(0, true), true);
        due(8, "it halts", x.tagNow(2), 0);
        due(8, "no step", x.stepTag(1), 0);
        due(8, "no more", x.halts(0, false), true);
        due(8, "it goes on", x.tagNow(2), 1);
        due(8, "another letter", x.halts(1, true), true);
        due(8, "it goes on still", x.stepTag(1), 1);
        for (int bad : new int[] {-1, 2, LEAST, GREATEST}) due(8, "none", x.halts(bad, true), false);
    }

    private static void put() {
        CountedWorkshop x = own(row(0, 0, 0), row());
        due(9, "0", x.put(0), true);
        due(9, "1", x.put(1), true);
        for (int bad : new int[] {-1, 2, LEAST, GREATEST}) due(9, "none", x.put(bad), false);
        due(9, "the word", wordOf(x), "0 1");
        x = own(row(0, 0, 0));
        putAll(x, 0, 0);
        x.stepTag(3997);
        due(9, "letters", x.tagNow(1), 3999);
        due(9, "the last that has room", x.put(0), true);
        due(9, "4000 are there", x.put(0), false);
        due(9, "letters", x.tagNow(1), 4000);
    }

    private static void production() {
        CountedWorkshop x = own(row(2, 1), row(), row(0));
        due(10, "0, 0", x.production(0, 0), 2);
        due(10, "0, 1", x.production(0, 1), 1);
        due(10, "2, 0", x.production(2, 0), 0);
        for (int bad : new int[] {-1, 2, 12, LEAST, GREATEST}) due(10, "past its end", x.production(0, bad), NONE);
        for (int bad : new int[] {-1, 3, LEAST, GREATEST}) due(10, "no such letter", x.production(bad, 0), NONE);
        due(10, "an empty one", x.production(1, 0), NONE);
    }

    private static void compileCyclic() {
        CountedWorkshop x = new CountedWorkshop();
        due(11, "no tag system", x.compileCyclic(), 0);
        x = own(row(1, 2), row(0), row(0, 0, 0));
        due(11, "with an empty word", x.compileCyclic(), 6);
        due(11, "no bits", x.cyclicNow(1), 0);
        due(11, "it halts", x.cyclicNow(2), 0);
        putAll(x, 2, 0, 1);
        due(11, "the cyclic word is its own", x.cyclicNow(1), 0);
        due(11, "made anew", x.compileCyclic(), 6);
        due(11, "the blocks", bitsOf(x), "001100010");
        due(11, "the tag word stays", wordOf(x), "2 0 1");
        x.stepCyclic(2);
        x.compileCyclic();
        due(11, "turn 0 again", x.cyclicNow(3), 0);
        due(11, "the whole word again", bitsOf(x), "001100010");
        x.stepTag(1);
        x.compileCyclic();
        due(11, "behind a step", bitsOf(x), "010100100100");
        x = made();
        due(11, "of a made system", x.compileCyclic(), 146);
        due(11, "its bits", x.cyclicNow(1), 14 * 73);
    }

    private static void appendant() {
        CountedWorkshop x = own(row(1, 2), row(), row(0, 0, 0));
        due(12, "before it is made", x.appendant(0, 0), NONE);
        x.compileCyclic();
        due(12, "0", appendantOf(x, 0), "010001");
        due(12, "1", appendantOf(x, 1), "");
        due(12, "2", appendantOf(x, 2), "100100100");
        for (int k = 3; k < 6; k++) due(12, "an empty one", x.appendant(k, 0), NONE);
        for (int bad : new int[] {-1, 6, LEAST, GREATEST}) due(12, "none", x.appendant(bad, 0), NONE);
        for (int bad : new int[] {-1, 6, LEAST, GREATEST}) due(12, "no bit", x.appendant(0, bad), NONE);
        x.extend(1, 1);
        x.spoil(0, 0, 0);
        due(12, "as it was made", appendantOf(x, 0) + appendantOf(x, 1), "010001");
        x.ownTag(3);
        due(12, "gone", x.appendant(0, 0), NONE);
    }

    private static void stepTape() {
        CountedWorkshop x = twoStates();
        due(13, "none", x.stepTape(0), 0);
        due(13, "below 0", x.stepTape(-1), 0);
        due(13, "far below 0", x.stepTape(LEAST), 0);
        due(13, "nothing was done", configurationOf(x), "1 0 2 3");
        due(13, "one to the right", x.stepTape(1), 1);
        due(13, "the configuration", configurationOf(x), "2 1 5 1");
        due(13, "it halts", x.stepTape(1), 0);
        x.tape(1, 1, 5, 2);
        due(13, "one to the left", x.stepTape(1), 1);
        due(13, "the configuration", configurationOf(x), "1 1 2 5");
        x = walker(1, 1);
        due(13, "up to its limit to the right", x.stepTape(20000), 8);
        due(13, "the configuration", configurationOf(x), "1 0 255 0");
        x.tape(1, 0, 127, 255);
        due(13, "127 is doubled", x.stepTape(2), 1);
        due(13, "the configuration", configurationOf(x), "1 1 255 127");
        x = walker(0, 0);
        x.tape(1, 0, 255, 127);
        due(13, "127 is doubled to the left", x.stepTape(2), 1);
        due(13, "the configuration", configurationOf(x), "1 1 127 254");
        x.tape(1, 0, 0, 0);
        due(13, "at most 20000", x.stepTape(GREATEST), 20000);
        due(13, "20000", x.stepTape(20000), 20000);
        x.rule(1, 0, 0, 0, 5);
        due(13, "up to a missing rule", x.stepTape(9), 1);
        due(13, "the configuration", configurationOf(x), "5 0 0 0");
    }

    private static void stepTag() {
        CountedWorkshop x = own(row(1, 2), row(0), row(0, 0, 0));
        putAll(x, 0, 0, 0);
        due(14, "none", x.stepTag(0), 0);
        due(14, "below 0", x.stepTag(LEAST), 0);
        due(14, "one", x.stepTag(1), 1);
        due(14, "the word", wordOf(x), "0 1 2");
        due(14, "one more", x.stepTag(1), 1);
        due(14, "the word", wordOf(x), "2 1 2");
        due(14, "up to one letter", x.stepTag(20000), 22);
        due(14, "the word", wordOf(x), "0");
        x.put(2);
        x.halts(0, true);
        due(14, "the first one halts", x.stepTag(5), 0);
        x = own(row(1, 1), row(2, 2), row(0, 0));
        putAll(x, 0, 0);
        due(14, "at most 20000", x.stepTag(20001), 20000);
        due(14, "the word", wordOf(x), "2 2");
        due(14, "far over", x.stepTag(GREATEST), 20000);
        due(14, "the word", wordOf(x), "1 1");
        x = own(row(0, 0, 0));
        putAll(x, 0, 0);
        due(14, "up to 4000", x.stepTag(20000), 3998);
        due(14, "letters", x.tagNow(1), 4000);
        due(14, "the limit", x.tagNow(2), LIMIT);
        x = own(row(0, 0, 0, 0, 0, 0, 0, 0, 0, 0, 0, 0));
        putAll(x, 0, 0);
        due(14, "before its limit", x.stepTag(20000), 399);
        due(14, "letters", x.tagNow(1), 3992);
        x = own(row());
        putAll(x, 0, 0);
        due(14, "to the empty word", x.stepTag(2), 1);
        due(14, "letters", x.tagNow(1), 0);
    }

    private static void stepCyclic() {
        CountedWorkshop x = own(row(1, 2), row(0), row(0, 0, 0));
        putAll(x, 0, 0, 0);
        due(15, "without a cyclic system", x.stepCyclic(5), 0);
        x.compileCyclic();
        due(15, "none", x.stepCyclic(0), 0);
        due(15, "below 0", x.stepCyclic(LEAST), 0);
        due(15, "one", x.stepCyclic(1), 1);
        due(15, "the word", bitsOf(x), "00100100" + "010001");
        due(15, "two", x.stepCyclic(2), 2);
        due(15, "the second block's 1 puts nothing", x.stepCyclic(1), 1);
        due(15, "the word", bitsOf(x), "00100" + "010001");
        due(15, "to the border", x.stepCyclic(2), 2);
        due(15, "the word", bitsOf(x), "100" + "010001");
        x.ownTag(2);
        due(15, "gone", x.stepCyclic(2), 0);
        x = own(row(1, 2), row(0), row(0, 0, 0));
        putAll(x, 0, 0, 0);
        x.compileCyclic();
        x.halts(0, true);
        x.spoil(0, 0, 0);
        due(15, "as it was made", x.stepCyclic(6), 6);
        due(15, "the word", bitsOf(x), "100010001");
        due(15, "up to the halt", x.stepCyclic(20000), 138);
        due(15, "the word", bitsOf(x), "100");
        x.compileCyclic();
        due(15, "a letter that halts now", x.stepCyclic(1), 0);
        x = own(row(0, 0));
        putAll(x, 0, 0);
        x.compileCyclic();
        due(15, "at most 20000", x.stepCyclic(GREATEST), 20000);
    }

    private static void stepCyclicLimit() {
        CountedWorkshop x = own(row(0, 0, 0));
        putAll(x, 0, 0);
        x.stepTag(3997);
        x.compileCyclic();
        due(15, "before its limit", x.stepCyclic(1), 1);
        due(15, "in the midst of a round", x.cyclicNow(1), 4001);
        due(15, "up to its limit", x.stepCyclic(20000), 1);
        due(15, "bits", x.cyclicNow(1), 4000);
        due(15, "the limit", x.cyclicNow(2), LIMIT);
        x = new CountedWorkshop();
        x.ownTag(300);
        for (int i = 0; i < 12; i++) x.extend(299, 299);
        putAll(x, 299, 299);
        x.stepTag(398);
        x.compileCyclic();
        due(15, "bits of many letters", x.cyclicNow(1), 3982 * 300);
        due(15, "the last bit", x.cyclicBit(3982 * 300 - 1), 1);
        due(15, "up to the limit", x.stepCyclic(20000), 600);
        due(15, "bits", x.cyclicNow(1), 3992 * 300);
        due(15, "the limit", x.cyclicNow(2), LIMIT);
    }

    private static void tapeNow() {
        CountedWorkshop x = twoStates();
        x.tape(1, 1, 4, 130);
        due(16, "the configuration", configurationOf(x), "1 1 4 130");
        due(16, "the limit to the left", x.tapeNow(4), LIMIT);
        x.tape(1, 1, 200, 127);
        due(16, "before the limit", x.tapeNow(4), 1);
        x.tape(1, 0, 128, 0);
        due(16, "the limit to the right", x.tapeNow(4), LIMIT);
        x.tape(2, 1, 255, 255);
        due(16, "a halt is no limit", x.tapeNow(4), 0);
        x.tape(3, 0, 255, 255);
        due(16, "a missing rule halts", x.tapeNow(4), 0);
        for (int bad : new int[] {-1, 5, LEAST, GREATEST}) due(16, "another what", x.tapeNow(bad), NONE);
    }

    private static void tagNow() {
        CountedWorkshop x = made();
        due(17, "L", x.tagNow(0), 73);
        due(17, "letters", x.tagNow(1), 14);
        due(17, "it goes on", x.tagNow(2), 1);
        for (int bad : new int[] {-1, 3, 4, LEAST, GREATEST}) due(17, "another what", x.tagNow(bad), NONE);
        x.ownTag(1);
        due(17, "an empty word halts", x.tagNow(2), 0);
        x.put(0);
        due(17, "one letter halts", x.tagNow(2), 0);
        x.put(0);
        due(17, "two do not", x.tagNow(2), 1);
    }

    private static void cyclicNow() {
        CountedWorkshop x = own(row(), row());
        putAll(x, 1, 0);
        x.compileCyclic();
        due(18, "appendants", x.cyclicNow(0), 4);
        for (int t = 0; t < 4; t++) {
            due(18, "bits", x.cyclicNow(1), 4 - t);
            due(18, "it goes on", x.cyclicNow(2), 1);
            due(18, "whose turn", x.cyclicNow(3), t);
            x.stepCyclic(1);
        }
        due(18, "no bits", x.cyclicNow(1), 0);
        due(18, "it halts", x.cyclicNow(2), 0);
        due(18, "turn 0", x.cyclicNow(3), 0);
        for (int bad : new int[] {-1, 4, 5, LEAST, GREATEST}) due(18, "another what", x.cyclicNow(bad), NONE);
        x = own(row(), row());
        x.put(1);
        x.compileCyclic();
        due(18, "one block halts", x.cyclicNow(2), 0);
        x.put(1);
        x.halts(1, true);
        x.compileCyclic();
        due(18, "a letter that halts", x.cyclicNow(2), 0);
    }

    private static void tagLetter() {
        CountedWorkshop x = own(row(1, 2), row(0), row(0, 0, 0));
        putAll(x, 0, 1, 2);
        due(19, "the word", x.tagLetter(0) + 10 * x.tagLetter(1) + 100 * x.tagLetter(2), 210);
        for (int bad : new int[] {-1, 3, 4000, LEAST, GREATEST}) due(19, "none", x.tagLetter(bad), NONE);
        x.stepTag(1);
        due(19, "the first is another", x.tagLetter(0), 2);
    }

    private static void cyclicBit() {
        CountedWorkshop x = own(row(1, 2), row(0), row(0, 0, 0));
        putAll(x, 0, 1, 2);
        due(20, "before it is made", x.cyclicBit(0), NONE);
        x.compileCyclic();
        due(20, "the word", bitsOf(x), "100010001");
        for (int bad : new int[] {-1, 9, LEAST, GREATEST}) due(20, "none", x.cyclicBit(bad), NONE);
        x.stepCyclic(4);
        due(20, "the word", bitsOf(x), "10001010001");
        due(20, "the end is another", x.cyclicBit(11), NONE);
        due(20, "far off in a round", x.cyclicBit(GREATEST), NONE);
    }

    private static void decodeTag() {
        CountedWorkshop x = made();
        due(21, "the code", decodedOf(x), "1 0 2 3");
        for (int bad : new int[] {-1, 4, LEAST, GREATEST}) due(21, "another what", x.decodeTag(bad), NONE);
        x.extend(1, 1);
        x.halts(1, true);
        due(21, "though it was changed", decodedOf(x), "1 0 2 3");
        x.put(4);
        due(21, "half a pair more", x.decodeTag(0), NONE);
        x.put(0);
        due(21, "a b more", decodedOf(x), "1 0 2 4");
        putAll(x, 2, 0);
        due(21, "an a behind B", x.decodeTag(0), NONE);
        x.halts(1, false);
        x.stepTag(1);
        due(21, "no border", x.decodeTag(3), NONE);
        x = new CountedWorkshop();
        x.ownTag(73);
        putAll(x, 1, 0, 3, 0);
        due(21, "of a user's system", x.decodeTag(0), NONE);
    }

    private static String decodedWord(int... word) {
        CountedWorkshop x = still();
        putAll(x, word);
        return decodedOf(x);
    }

    private static void decodeTagWords() {
        String no = "-1 -1 -1 -1";
        due(21, "the last state and symbol", decodedWord(55, 0, 56, 0, 57, 0), "2 1 1 0");
        due(21, "no word", decodedWord(), no);
        due(21, "no B", decodedWord(1, 0, 2, 0), no);
        due(21, "no A", decodedWord(2, 0, 3, 0), no);
        due(21, "B alone", decodedWord(3, 0), no);
        due(21, "two A", decodedWord(1, 0, 1, 0, 3, 0), no);
        due(21, "two B", decodedWord(1, 0, 3, 0, 3, 0), no);
        due(21, "B of another symbol", decodedWord(1, 0, 21, 0), no);
        due(21, "a of another symbol", decodedWord(1, 0, 20, 0, 3, 0), no);
        due(21, "b of another symbol", decodedWord(1, 0, 3, 0, 22, 0), no);
        due(21, "no x behind A", decodedWord(1, 2, 3, 0), no);
        due(21, "no x behind a", decodedWord(1, 0, 2, 2, 3, 0), no);
        due(21, "no x behind B", decodedWord(1, 0, 3, 4), no);
        due(21, "no x behind b", decodedWord(1, 0, 3, 0, 4, 4), no);
        due(21, "no last x", decodedWord(1, 0, 3), no);
        due(21, "x in front", decodedWord(0, 1, 0, 3), no);
        due(21, "another letter in front", decodedWord(5, 0, 7, 0), no);
        CountedWorkshop x = still();
        putAll(x, 1, 0, 3, 0);
        for (int i = 0; i < 240; i++) putAll(x, 4, 0);
        due(21, "a great RIGHT", x.decodeTag(3), 240);
        x = still();
        x.extend(5, 1);
        x.extend(5, 0);
        x.extend(6, 3);
        x.extend(6, 0);
        for (int i = 0; i < 12; i++) x.extend(7, i % 2 == 0 ? 4 : 0);
        putAll(x, 5, 5, 6, 6);
        for (int i = 0; i < 50; i++) putAll(x, 7, 7);
        due(21, "steps", x.stepTag(52), 52);
        due(21, "any number for RIGHT", decodedOf(x), "1 0 0 300");
    }

    private static void decodeCyclic() {
        CountedWorkshop x = own(row(1, 2), row(0), row(0, 0, 0));
        putAll(x, 0, 1, 2);
        due(22, "before it is made", x.decodeCyclic(0), NONE);
        x.compileCyclic();
        for (int i = 0; i < 3; i++) due(22, "block " + i, x.decodeCyclic(i), i);
        for (int bad : new int[] {-1, 3, LEAST, GREATEST}) due(22, "no such block", x.decodeCyclic(bad), NONE);
        for (int t = 1; t < 6; t++) {
            x.stepCyclic(1);
            due(22, "no border", x.decodeCyclic(0), NONE);
        }
        x.stepCyclic(1);
        due(22, "the next border", x.decodeCyclic(0) + 10 * x.decodeCyclic(1) + 100 * x.decodeCyclic(2), 212);
    }

    private static void nextBorder() {
        CountedWorkshop x = made();
        due(23, "to the right", x.nextBorder(), 23);
        due(23, "the code", decodedOf(x), "2 1 5 1");
        due(23, "it halted before", x.nextBorder(), 0);
        due(23, "no step", decodedOf(x), "2 1 5 1");
        x.tape(1, 1, 5, 2);
        x.compileTag();
        due(23, "to the left", x.nextBorder(), x.roundCost(1, 1, 5, 2));
        due(23, "the code", decodedOf(x), "1 1 2 5");
        x.stepTag(3);
        due(23, "from between", x.nextBorder(), x.roundCost(1, 1, 2, 5) - 3);
        x.tape(1, 1, 2, 3);
        x.compileTag();
        x.halts(25, true);
        due(23, "it halts on the way", x.nextBorder(), 0);
        due(23, "the steps stay made", x.tagLetter(0), 25);
        x = own(row(1, 1), row(2, 2), row(0, 0));
        putAll(x, 0, 0);
        due(23, "none in a user's system", x.nextBorder(), 0);
        due(23, "20000 steps stay made", wordOf(x), "2 2");
        x = own(row(0, 0, 0));
        putAll(x, 0, 0);
        due(23, "to its limit", x.nextBorder(), 0);
        due(23, "the steps stay made", x.tagNow(1), 4000);
        x = still();
        putAll(x, 5, 5, 1, 0, 3, 0);
        x.halts(1, true);
        due(23, "a border where it halts", x.nextBorder(), 1);
    }

    private static void nextBorderFarOff() {
        CountedWorkshop x = slow();
        due(23, "on the way", x.stepTag(2312), 2312);
        due(23, "just enough", x.nextBorder(), 20000);
        due(23, "the code", decodedOf(x), "1 0 0 0");
        x = slow();
        due(23, "on the way", x.stepTag(2311), 2311);
        due(23, "too few", x.nextBorder(), 0);
        due(23, "no border yet", x.decodeTag(0), NONE);
        due(23, "the steps stay made", x.nextBorder(), 1);
    }

    private static void roundCost() {
        CountedWorkshop x = twoStates();
        due(24, "to the right", x.roundCost(1, 0, 2, 3), 23);
        due(24, "to the left", x.roundCost(1, 1, 5, 2), 5 + 2 + 2 + 2 * (4 + 1 + 2 + 2));
        due(24, "the least", walker(0, 1).roundCost(1, 0, 0, 0), 6);
        due(24, "the greatest", x.roundCost(1, 0, 255, 255), 512 + 2 * (510 + 1 + 2 + 127));
        due(24, "a rule that halts", x.roundCost(2, 1, 0, 0), NONE);
        due(24, "a missing one", x.roundCost(3, 0, 0, 0), NONE);
        int[][] bad = {{0, 0, 0, 0}, {9, 0, 0, 0}, {1, -1, 0, 0}, {1, 2, 0, 0}, {1, 0, -1, 0}, {1, 0, 256, 0},
            {1, 0, 0, -1}, {1, 0, 0, 256}, {LEAST, LEAST, LEAST, LEAST}, {GREATEST, 0, 0, 0}};
        for (int[] c : bad) due(24, "a wrong number", x.roundCost(c[0], c[1], c[2], c[3]), NONE);
        for (int move = 0; move < 2; move++) for (int write = 0; write < 2; write++) {
            CountedWorkshop w = walker(write, move);
            for (int l = 0; l < 5; l++) for (int r = 0; r < 5; r++) {
                w.tape(1, l % 2, l, r);
                w.compileTag();
                due(24, "as it is", w.nextBorder(), w.roundCost(1, l % 2, l, r));
            }
        }
    }

    private static void lockStep() {
        CountedWorkshop x = made();
        due(25, "up to the halt", x.lockStep(50), 0);
        due(25, "the configuration", configurationOf(x), "2 1 5 1");
        due(25, "the word", decodedOf(x), "2 1 5 1");
        x.tape(1, 0, 2, 2);
        due(25, "one step", x.lockStep(1), 0);
        due(25, "the configuration", configurationOf(x), "2 0 5 1");
        due(25, "the word", decodedOf(x), "2 0 5 1");
        x.tape(1, 1, 7, 7);
        due(25, "no step", x.lockStep(0), 0);
        due(25, "the word is the code", decodedOf(x), "1 1 7 7");
        x.tape(1, 1, 7, 6);
        due(25, "below 0", x.lockStep(LEAST), 0);
        due(25, "the word is the code", decodedOf(x), "1 1 7 6");
        x = walker(0, 0);
        x.compileTag();
        due(25, "at most 200", x.lockStep(GREATEST), 0);
        x.halts(1, true);
        due(25, "a border that was there before is none", x.lockStep(1), 1);
        x = walker(1, 1);
        x.compileTag();
        due(25, "the tape's limit", x.lockStep(200), LIMIT);
        due(25, "the configuration", configurationOf(x), "1 0 255 0");
        due(25, "the word", decodedOf(x), "1 0 255 0");
        x.tape(1, 0, 127, 0);
        due(25, "just before it", x.lockStep(1), 0);
        due(25, "behind it", x.lockStep(1), LIMIT);
    }

    private static void lockStepStopsAt200() {
        CountedWorkshop x = new CountedWorkshop();
        // Without a count of its own the tape turns: right in state 1, left in state 2.
        for (int s = 0; s < 2; s++) {
            x.rule(1, s, s, 1, 2);
            x.rule(2, s, s, 0, 3);
            x.rule(3, s, s, 1, 1);
        }
        x.tape(1, 0, 0, 0);
        x.compileTag();
        due(25, "201 are 200", x.lockStep(201), 0);
        due(25, "behind 200 steps", x.tapeNow(0), 1 + 200 % 3);
    }

    private static void lockStepDisagrees() {
        CountedWorkshop x = made();
        x.spoil(2, 0, 7);
        due(25, "no such border or another", x.lockStep(3), 1);
        x = made();
        x.halts(1, true);
        due(25, "the tape goes on, the tag system halts", x.lockStep(3), 1);
        due(25, "the tape made its step", configurationOf(x), "2 1 5 1");
        due(25, "the word is where it stopped", decodedOf(x), "1 0 2 3");
        x = made();
        x.halts(55, false);
        due(25, "the tape halts, the tag system doesn't", x.lockStep(3), 2);
        due(25, "the word is where it stopped", decodedOf(x), "2 1 5 1");
        x.tape(1, 0, 2, 3);
        due(25, "that is not seen in the last step", x.lockStep(1), 0);
        x = made();
        x.tape(1, 0, 2, 3);
        x.rule(1, 0, 0, 1, 2);
        due(25, "another code", x.lockStep(3), 1);
        due(25, "the configuration", configurationOf(x), "2 1 4 1");
        due(25, "the word", decodedOf(x), "2 1 5 1");
        x = made();
        x.rule(2, 1, 0, 1, 1);
        due(25, "behind the second step", x.lockStep(9), 2);
        due(25, "the configuration", configurationOf(x), "1 1 10 0");
        x = made();
        x.halts(7, true);
        due(25, "it halts on the way", x.lockStep(9), 1);
        x = made();
        x.tape(2, 1, 1, 1);
        due(25, "both halt at once", x.lockStep(9), 0);
    }

    private static void lockStepRefuses() {
        CountedWorkshop x = made();
        x.rule(3, 0, 0, 0, 3);
        x.tape(3, 0, 1, 1);
        due(25, "no letters for the state", x.lockStep(3), NONE);
        due(25, "nothing was changed", decodedOf(x) + ", " + configurationOf(x), "1 0 2 3, 3 0 1 1");
        x.tape(1, 0, 1, 1);
        x.ownTag(73);
        x.put(9);
        due(25, "a user's system", x.lockStep(3), NONE);
        due(25, "nothing was changed", wordOf(x) + ", " + configurationOf(x), "9, 1 0 1 1");
        x = made();
        x.compileCyclic();
        x.stepCyclic(2);
        x.lockStep(9);
        due(25, "the cyclic system stays", x.cyclicNow(3), 2);
    }

    public static void main(String[] args) {
        newObject();
        rule();
        tape();
        compileTagProductions();
        compileTagHalts();
        compileTagRefuses();
        ownTag();
        extend();
        spoil();
        halts();
        put();
        production();
        compileCyclic();
        appendant();
        stepTape();
        stepTag();
        stepCyclic();
        stepCyclicLimit();
        tapeNow();
        tagNow();
        cyclicNow();
        tagLetter();
        cyclicBit();
        decodeTag();
        decodeTagWords();
        decodeCyclic();
        nextBorder();
        nextBorderFarOff();
        roundCost();
        lockStep();
        lockStepStopsAt200();
        lockStepDisagrees();
        lockStepRefuses();
        end("PromiseTest");
    }
}
