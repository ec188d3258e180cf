import java.util.ArrayList;
import java.util.List;
import java.util.function.Supplier;

/**
 * Whether a call changes nothing: of two objects that are made by one recipe, one gets the call,
 * and from then on both must answer alike. Both are made anew for every visit, since some of
 * what is asked changes them, and since the calls of one object are few.
 */
final class Twins {
    private static final int CALLS_OF_A_VISIT = 150;
    private static final int PLACES = 60;

    private final Supplier<CountedWorkshop> recipe;
    private final Deed call;
    private final List<List<Deed>> visits = new ArrayList<>();

    Twins(Supplier<CountedWorkshop> recipe, Deed call) {
        this.recipe = recipe;
        this.call = call;
        List<Deed> looks = looks();
        addVisits(looks);
        addVisits(productions());
        goOn(looks);
        askRules();
        askHalts();
    }

    /** The first answers that are not alike, or an empty text. */
    String difference() {
        for (int v = 0; v < visits.size(); v++) {
            CountedWorkshop without = recipe.get();
            CountedWorkshop with = recipe.get();
            call.on(with);
            for (int d = 0; d < visits.get(v).size(); d++) {
                Object due = visits.get(v).get(d).on(without);
                Object got = visits.get(v).get(d).on(with);
                if (!due.equals(got)) return "visit " + v + ", question " + d + ": " + got + " and not " + due;
            }
        }
        return "";
    }

    private void addVisits(List<Deed> deeds) {
        for (int from = 0; from < deeds.size(); from += CALLS_OF_A_VISIT) {
            visits.add(deeds.subList(from, Math.min(deeds.size(), from + CALLS_OF_A_VISIT)));
        }
    }

    /** Places all over a row, more than its ends. */
    private static List<Integer> places(int size) {
        List<Integer> places = new ArrayList<>();
        for (int i = -1; i < size; i += size / PLACES + 1) places.add(i);
        places.add(size - 1);
        places.add(size);
        return places;
    }

    private List<Deed> looks() {
        CountedWorkshop sample = recipe.get();
        List<Deed> looks = new ArrayList<>();
        for (int each = 0; each <= 4; each++) {
            int what = each;
            looks.add(x -> x.tapeNow(what));
            looks.add(x -> x.tagNow(what));
            looks.add(x -> x.cyclicNow(what));
            looks.add(x -> x.decodeTag(what));
        }
        for (int i : places(sample.tagNow(1))) looks.add(x -> x.tagLetter(i));
        for (int i : places(sample.cyclicNow(1))) looks.add(x -> x.cyclicBit(i));
        for (int i : places(sample.tagNow(1))) looks.add(x -> x.decodeCyclic(i));
        for (int k : places(sample.cyclicNow(0))) looks.add(x -> x.appendant(k, k));
        return looks;
    }

    private List<Deed> productions() {
        List<Deed> deeds = new ArrayList<>();
        int letters = recipe.get().tagNow(0);
        for (int each = 0; each < letters; each++) {
            int letter = each;
            for (int i : new int[] {0, 1, 2, 3, 4, 11, 12}) deeds.add(x -> x.production(letter, i));
        }
        return deeds;
    }

    private void goOn(List<Deed> looks) {
        List<Deed> ways = List.of(x -> x.stepTape(3), x -> x.stepTag(7), x -> x.stepTag(20000), x -> x.stepCyclic(1),
                x -> x.stepCyclic(700), x -> x.nextBorder(), x -> x.lockStep(5), x -> x.compileTag(),
                x -> x.compileCyclic());
        for (Deed way : ways) {
            for (int from = 0; from < looks.size(); from += CALLS_OF_A_VISIT) {
                List<Deed> visit = new ArrayList<>();
                visit.add(way);
                visit.addAll(looks.subList(from, Math.min(looks.size(), from + CALLS_OF_A_VISIT)));
                visits.add(visit);
            }
        }
    }

    private void askRules() {
        for (int each = 0; each < 16; each++) {
            int q = 1 + each / 2;
            int s = each % 2;
            visits.add(List.of(x -> x.roundCost(q, s, 5, 6), x -> x.tape(q, s, 5, 6), x -> x.stepTape(1),
                    x -> x.tapeNow(0), x -> x.tapeNow(1), x -> x.tapeNow(2), x -> x.tapeNow(3)));
            // In a made system a letter A that halts shows when it is the first one.
            visits.add(List.of(x -> x.tape(q, s, 0, 0), x -> x.lockStep(0), x -> x.tagNow(2)));
        }
    }

    /** Whether a letter halts is seen where it is the first one: behind an empty word's end. */
    private void askHalts() {
        CountedWorkshop sample = recipe.get();
        if (sample.tagNow(1) != 0) return;
        int letters = sample.tagNow(0);
        for (int each = 0; each < letters; each++) {
            int letter = each;
            visits.add(List.of(x -> x.put(letter), x -> x.put(letter), x -> x.tagNow(2)));
        }
    }
}
