/** TagWorkshop, its calls counted: no test may use an object for more than the document allows. */
final class CountedWorkshop {
    private static final int MOST_CALLS = 512;
    private final TagWorkshop workshop = new TagWorkshop();
    private int calls = 0;

    private TagWorkshop next() {
        calls++;
        if (calls > MOST_CALLS) throw new IllegalStateException("the test uses an object for too many calls");
        return workshop;
    }

    boolean rule(int state, int symbol, int write, int move, int next) { return next().rule(state, symbol, write, move, next); }
    boolean tape(int state, int symbol, int left, int right) { return next().tape(state, symbol, left, right); }
    int compileTag() { return next().compileTag(); }
    boolean ownTag(int letters) { return next().ownTag(letters); }
    boolean extend(int letter, int v) { return next().extend(letter, v); }
    int spoil(int letter, int i, int v) { return next().spoil(letter, i, v); }
    boolean halts(int letter, boolean on) { return next().halts(letter, on); }
    boolean put(int v) { return next().put(v); }
    int production(int letter, int i) { return next().production(letter, i); }
    int compileCyclic() { return next().compileCyclic(); }
    int appendant(int k, int i) { return next().appendant(k, i); }
    int stepTape(int n) { return next().stepTape(n); }
    int stepTag(int n) { return next().stepTag(n); }
    int stepCyclic(int n) { return next().stepCyclic(n); }
    int tapeNow(int what) { return next().tapeNow(what); }
    int tagNow(int what) { return next().tagNow(what); }
    int cyclicNow(int what) { return next().cyclicNow(what); }
    int tagLetter(int i) { return next().tagLetter(i); }
    int cyclicBit(int i) { return next().cyclicBit(i); }
    int decodeTag(int what) { return next().decodeTag(what); }
    int decodeCyclic(int i) { return next().decodeCyclic(i); }
    int nextBorder() { return next().nextBorder(); }
    int roundCost(int state, int symbol, int left, int right) { return next().roundCost(state, symbol, left, right); }
    int lockStep(int n) { return next().lockStep(n); }
}
