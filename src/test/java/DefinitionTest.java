import java.util.ArrayList;
import java.util.List;

/**
 * The terms of the document by their own words, for codes that are small enough to try every row of
 * values that the blocks can have: contradiction, determined blocks, rank and what follows from them.
 */
public final class DefinitionTest {
    private static final int LARGEST = 8;

    private final Checks checks = new Checks();

    public static void main(String[] args) {
        DefinitionTest test = new DefinitionTest();
        for (int sources = 1; sources <= LARGEST; sources++) {
            for (int parities = 0; parities <= 6 && sources + parities <= LARGEST; parities++) {
                test.tryTransfer(sources, parities, 0);
                test.tryTransfer(sources, parities, -500);
            }
        }
        test.checks.finish();
    }

    private void tryTransfer(int sources, int parities, int firstDrop) {
        FountainCode code = new FountainCode();
        code.start(sources, parities);
        List<Integer> sets = new ArrayList<>();
        List<Integer> bits = new ArrayList<>();
        for (int parity = 0; parity < parities; parity++) {
            sets.add(coverSet(sources, parity));
            bits.add(0);
        }
        for (int step = 0; step < 25; step++) {
            int drop = firstDrop + step;
            String when = sources + " sources, " + parities + " parities, drop " + drop;
            int set = setOfDrop(code, drop);
            checkState(when, code, solutions(code.blocks(), sets, bits));
            checkForecast(when, code, drop, sets, bits, set);
            // Values of our own instead of the sender's, so that contradictions come up too.
            int bit = step * 5 % 3 == 1 ? 1 : 0;
            sets.add(set);
            bits.add(bit);
            if (solutions(code.blocks(), sets, bits).isEmpty()) {
                checks.same(when + ": a contradiction", "throws IllegalStateException", new Call("receive", drop, bit).answerOf(code));
                sets.remove(sets.size() - 1);
                bits.remove(bits.size() - 1);
            } else {
                code.receive(drop, bit);
            }
            checks.same(when + ": equations()", sets.size(), code.equations());
        }
    }

    private void checkState(String when, FountainCode code, List<Integer> solutions) {
        checks.same(when + ": rank()", code.blocks() - log2(solutions.size()), code.rank());
        checks.same(when + ": missing()", log2(solutions.size()), code.missing());
        int determined = 0;
        for (int block = 0; block < code.blocks(); block++) {
            boolean fixed = isFixed(solutions, block);
            checks.same(when + ": isDetermined(" + block + ")", fixed, code.isDetermined(block));
            if (fixed) {
                determined++;
                checks.same(when + ": recovered(" + block + ")", solutions.get(0) >> block & 1, code.recovered(block));
            }
        }
        checks.same(when + ": determined()", determined, code.determined());
    }

    private void checkForecast(String when, FountainCode code, int drop, List<Integer> sets, List<Integer> bits, int set) {
        List<Integer> before = solutions(code.blocks(), sets, bits);
        List<Integer> after = new ArrayList<>();
        for (int row : before) {
            if ((Integer.bitCount(row & set) & 1) == (Integer.bitCount(before.get(0) & set) & 1)) {
                after.add(row);
            }
        }
        checks.same(when + ": wouldHelp", after.size() < before.size(), code.wouldHelp(drop));
        int more = 0;
        for (int block = 0; block < code.blocks(); block++) {
            if (isFixed(after, block) && !isFixed(before, block)) {
                more++;
            }
        }
        checks.same(when + ": wouldDetermine", more, code.wouldDetermine(drop));
    }

    private static int setOfDrop(FountainCode code, int drop) {
        int set = 0;
        for (int place = 0; place < code.degree(drop); place++) {
            set |= 1 << code.blockOf(drop, place);
        }
        return set;
    }

    private static int coverSet(int sources, int parity) {
        int set = 1 << (sources + parity);
        for (int source = 0; source < sources; source++) {
            if (NaiveFountain.covers(parity, source)) {
                set |= 1 << source;
            }
        }
        return set;
    }

    /** Every row of one-bit values, block b at bit b, that satisfies all equations. */
    private static List<Integer> solutions(int blocks, List<Integer> sets, List<Integer> bits) {
        List<Integer> rows = new ArrayList<>();
        for (int row = 0; row < 1 << blocks; row++) {
            boolean satisfies = true;
            for (int i = 0; i < sets.size() && satisfies; i++) {
                satisfies = (Integer.bitCount(row & sets.get(i)) & 1) == bits.get(i);
            }
            if (satisfies) {
                rows.add(row);
            }
        }
        return rows;
    }

    private static boolean isFixed(List<Integer> rows, int block) {
        for (int row : rows) {
            if ((row >> block & 1) != (rows.get(0) >> block & 1)) {
                return false;
            }
        }
        return true;
    }

    private static int log2(int powerOfTwo) {
        return Integer.numberOfTrailingZeros(powerOfTwo);
    }
}
