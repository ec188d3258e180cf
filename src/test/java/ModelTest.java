import java.util.ArrayList;
import java.util.List;
import java.util.Random;

/** Long runs of calls, drawn from fixed seeds, on TagWorkshop and on NaiveWorkshop side by side. */
public final class ModelTest {
    // What is begun when a run has one call left takes some fifty more, and an object has 512.
    private static final int RUNS = 700, CALLS = 460;
    private static final int[] EDGES = {
        Integer.MIN_VALUE, -2, -1, 0, 1, 2, 8, 9, 12, 255, 256, 300, 301, 20001, Integer.MAX_VALUE,
    };
    private static int wrong = 0;
    private static int answers = 0;

    private final Random random;
    private final CountedWorkshop got = new CountedWorkshop();
    private final NaiveWorkshop want = new NaiveWorkshop();
    private final List<String> calls = new ArrayList<>();
    private boolean failed = false;

    private ModelTest(int seed) { random = new Random(seed); }

    private boolean goesOn() { return calls.size() < CALLS && !failed; }

    private void same(String call, int gotAnswer, int wantAnswer) {
        calls.add(call + " = " + wantAnswer);
        answers++;
        if (gotAnswer != wantAnswer && !failed) {
            failed = true;
            wrong++;
            System.out.println(String.join("\n", calls.subList(Math.max(0, calls.size() - 40), calls.size())));
            System.out.println("answered " + gotAnswer);
        }
    }

    private void same(String call, boolean gotAnswer, boolean wantAnswer) {
        same(call, gotAnswer ? 1 : 0, wantAnswer ? 1 : 0);
    }

    /** A number from low to high, now and then one that is not as said. */
    private int draw(int low, int high) {
        if (random.nextInt(60) == 0) return EDGES[random.nextInt(EDGES.length)];
        if (random.nextInt(30) == 0) return random.nextBoolean() ? low - 1 : high + 1;
        return low + random.nextInt(Math.max(1, high - low + 1));
    }

    private int letters() { return want.tagNow(0); }

    private int drawLetter() { return draw(0, letters() - 1); }

    private void rule(int q, int s, int w, int m, int next) {
        same("rule(" + q + "," + s + "," + w + "," + m + "," + next + ")",
                got.rule(q, s, w, m, next), want.rule(q, s, w, m, next));
    }

    private void tape() {
        int most = random.nextInt(3) == 0 ? 255 : 9;
        int q = random.nextInt(3) == 0 ? draw(1, 8) : draw(1, 2), s = draw(0, 1);
        int l = draw(0, most), r = draw(0, most);
        same("tape(" + q + "," + s + "," + l + "," + r + ")", got.tape(q, s, l, r), want.tape(q, s, l, r));
    }

    private void rules() {
        int states = 1 + random.nextInt(random.nextBoolean() ? 3 : 8);
        for (int q = 1; q <= states; q++) {
            for (int s = 0; s < 2; s++) {
                if (random.nextInt(40) == 0) continue;
                int next = random.nextInt(9) == 0 ? 0 : 1 + random.nextInt(states);
                rule(q, s, random.nextInt(2), random.nextInt(2), next);
            }
        }
    }

    private void anyRule() { rule(draw(1, 3), draw(0, 1), draw(0, 1), draw(0, 1), draw(0, 3)); }

    private void compileTag() { same("compileTag()", got.compileTag(), want.compileTag()); }

    private void ownTag() {
        int n = random.nextInt(5) == 0 ? draw(1, 300) : draw(1, 6);
        same("ownTag(" + n + ")", got.ownTag(n), want.ownTag(n));
    }

    private void extend() {
        int letter = drawLetter(), v = drawLetter();
        same("extend(" + letter + "," + v + ")", got.extend(letter, v), want.extend(letter, v));
    }

    private void spoil() {
        int letter = drawLetter(), i = draw(0, 3), v = drawLetter();
        same("spoil(" + letter + "," + i + "," + v + ")", got.spoil(letter, i, v), want.spoil(letter, i, v));
    }

    private void halts() {
        int letter = drawLetter();
        boolean on = random.nextInt(3) == 0;
        same("halts(" + letter + "," + on + ")", got.halts(letter, on), want.halts(letter, on));
    }

    private void put() {
        int v = random.nextBoolean() ? 0 : drawLetter();
        same("put(" + v + ")", got.put(v), want.put(v));
    }

    private int steps() {
        int kind = random.nextInt(12);
        return kind == 0 ? 20000 : kind < 4 ? draw(0, 600) : draw(0, 9);
    }

    private int cyclicSteps() {
        int round = want.cyclicNow(0);
        int toBorder = round - want.cyclicNow(3);
        return random.nextInt(3) == 0 ? steps() : toBorder + (random.nextInt(3) - 1) + round * random.nextInt(9);
    }

    private void step() {
        int n = steps(), bits = cyclicSteps();
        switch (random.nextInt(3)) {
            case 0: same("stepTape(" + n + ")", got.stepTape(n), want.stepTape(n)); break;
            case 1: same("stepTag(" + n + ")", got.stepTag(n), want.stepTag(n)); break;
            default: same("stepCyclic(" + bits + ")", got.stepCyclic(bits), want.stepCyclic(bits));
        }
    }

    private void compileCyclic() { same("compileCyclic()", got.compileCyclic(), want.compileCyclic()); }

    private void nextBorder() { same("nextBorder()", got.nextBorder(), want.nextBorder()); }

    private void lockStep() {
        int n = random.nextInt(4) == 0 ? draw(0, 200) : draw(0, 12);
        same("lockStep(" + n + ")", got.lockStep(n), want.lockStep(n));
    }

    private void roundCost() {
        int q = draw(1, 4), s = draw(0, 1), l = draw(0, 255), r = draw(0, 255);
        same("roundCost(" + q + "," + s + "," + l + "," + r + ")",
                got.roundCost(q, s, l, r), want.roundCost(q, s, l, r));
    }

    private void look() {
        for (int what = -1; what <= 5; what++) {
            same("tapeNow(" + what + ")", got.tapeNow(what), want.tapeNow(what));
            same("tagNow(" + what + ")", got.tagNow(what), want.tagNow(what));
            same("cyclicNow(" + what + ")", got.cyclicNow(what), want.cyclicNow(what));
            same("decodeTag(" + what + ")", got.decodeTag(what), want.decodeTag(what));
        }
    }

    private void lookInside() {
        int i = draw(0, want.tagNow(1)), k = draw(0, want.cyclicNow(1)), letter = drawLetter(), at = draw(0, 12);
        same("tagLetter(" + i + ")", got.tagLetter(i), want.tagLetter(i));
        same("cyclicBit(" + k + ")", got.cyclicBit(k), want.cyclicBit(k));
        same("production(" + letter + "," + at + ")", got.production(letter, at), want.production(letter, at));
        int block = draw(0, 12), turn = draw(0, want.cyclicNow(0)), bit = draw(0, 4 * letters());
        same("decodeCyclic(" + block + ")", got.decodeCyclic(block), want.decodeCyclic(block));
        same("appendant(" + turn + "," + bit + ")", got.appendant(turn, bit), want.appendant(turn, bit));
    }

    private void anyCall() {
        switch (random.nextInt(20)) {
            case 0: anyRule(); break;
            case 1: case 2: tape(); break;
            case 3: compileTag(); break;
            case 4: case 5: extend(); break;
            case 6: spoil(); break;
            case 7: halts(); break;
            case 8: put(); break;
            case 9: compileCyclic(); break;
            case 10: nextBorder(); break;
            case 11: case 12: lockStep(); break;
            case 13: roundCost(); break;
            case 14: look(); break;
            case 15: lookInside(); break;
            default: step();
        }
    }

    private void startMade() {
        rules();
        tape();
        compileTag();
    }

    private void startOwn() {
        ownTag();
        int most = 3 * Math.min(letters(), 12);
        for (int i = 0; i < most; i++) extend();
        for (int i = random.nextInt(12); i > 0; i--) put();
    }

    private void run() {
        while (goesOn()) {
            if (random.nextBoolean()) startMade(); else startOwn();
            if (random.nextBoolean()) compileCyclic();
            for (int i = random.nextInt(120); i > 0 && goesOn(); i--) anyCall();
        }
    }

    public static void main(String[] args) {
        for (int seed = 0; seed < RUNS && wrong < 3; seed++) new ModelTest(seed).run();
        System.out.println("ModelTest: " + answers + " answers, " + wrong + " runs with a wrong one");
        if (wrong != 0) System.exit(1);
    }
}
