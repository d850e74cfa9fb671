import java.util.ArrayList;
import java.util.Arrays;
import java.util.Collections;
import java.util.List;

/**
 * The document written down once more, as slowly and plainly as can be: it keeps the list of the
 * equations and works out every answer from it anew. The tests hold FountainCode against it.
 */
final class NaiveFountain {
    static final int NONE = -1;

    /** The exclusive or of some blocks is a value. */
    record Equation(long blocks, int value) {}

    private final int[] weights = {0, 3, 20, 8, 4, 3, 2, 1, 1, 1, 1, 1, 1};
    private int sources;
    private int parities;
    private int[] sourceValues;
    private List<Equation> equations;
    private List<Integer> peelOrder;
    private List<Integer> peelEquations;

    NaiveFountain() {
        begin(1, 0);
    }

    private int begin(int s, int p) {
        sources = s;
        parities = p;
        sourceValues = new int[s];
        equations = new ArrayList<>();
        peelOrder = new ArrayList<>();
        peelEquations = new ArrayList<>();
        for (int j = 0; j < p; j++) {
            long blocks = 1L << (s + j);
            for (int i = 0; i < s; i++) {
                if (covers(j, i)) {
                    blocks |= 1L << i;
                }
            }
            equations.add(new Equation(blocks, 0));
        }
        return peel();
    }

    static boolean covers(int parity, int source) {
        return Integer.toBinaryString(source + 1 + 64).charAt(6 - parity) == '1';
    }

    int start(int s, int p) {
        if (s < 1 || s > 32 || p < 0 || p > 6) {
            throw new IllegalArgumentException();
        }
        return begin(s, p);
    }

    int setWeight(int degree, int weight) {
        if (degree < 1 || degree > 12 || weight < 0 || weight > 1000) {
            throw new IllegalArgumentException();
        }
        int before = weights[degree];
        weights[degree] = weight;
        if (Arrays.stream(weights).sum() == 0) {
            weights[degree] = before;
            throw new IllegalStateException();
        }
        return before;
    }

    int setBlock(int block, int value) {
        if (block < 0 || block >= sources) {
            throw new IndexOutOfBoundsException();
        }
        int before = sourceValues[block];
        sourceValues[block] = value;
        return before;
    }

    int blocks() {
        return sources + parities;
    }

    int blockAt(int block) {
        checkBlock(block);
        if (block < sources) {
            return sourceValues[block];
        }
        int value = 0;
        for (int i = 0; i < sources; i++) {
            if (covers(block - sources, i)) {
                value ^= sourceValues[i];
            }
        }
        return value;
    }

    List<Integer> blocksOf(int drop) {
        long[] generator = {drop};
        int r = draw(generator, Arrays.stream(weights).sum());
        int degree = 1;
        while (Arrays.stream(weights, 0, degree + 1).sum() <= r) {
            degree++;
        }
        List<Integer> row = new ArrayList<>();
        for (int b = 0; b < blocks(); b++) {
            row.add(b);
        }
        int size = degree > blocks() ? blocks() : degree;
        for (int p = 0; p < size; p++) {
            int q = draw(generator, blocks() - p);
            Collections.swap(row, p, p + q);
        }
        return row.subList(0, size);
    }

    private static int draw(long[] generator, int n) {
        generator[0] = generator[0] * 6364136223846793005L + 1442695040888963407L;
        return (int) ((generator[0] >>> 33) % n);
    }

    int degree(int drop) {
        return blocksOf(drop).size();
    }

    int blockOf(int drop, int place) {
        return blocksOf(drop).get(place);
    }

    int valueOf(int drop) {
        int value = 0;
        for (int block : blocksOf(drop)) {
            value ^= blockAt(block);
        }
        return value;
    }

    int receive(int drop, int value) {
        if (dropsTaken() == 120 || contradicts(drop, value)) {
            throw new IllegalStateException();
        }
        equations.add(equationOf(drop, value));
        return peel();
    }

    int receiveAll(int first, int count) {
        if (count < 1 || count > 40) {
            throw new IllegalArgumentException();
        }
        for (int taken = 0; taken < count; taken++) {
            try {
                receive(first + taken, valueOf(first + taken));
            } catch (IllegalStateException e) {
                return taken;
            }
        }
        return count;
    }

    int equations() {
        return equations.size();
    }

    int rank() {
        return rankOf(equations);
    }

    int peeled() {
        return peelOrder.size();
    }

    int peeledAt(int place) {
        return peelOrder.get(place);
    }

    int peeledBy(int block) {
        checkBlock(block);
        int place = peelOrder.indexOf(block);
        return place < 0 ? NONE : peelEquations.get(place);
    }

    int determined() {
        return determinedBy(equations);
    }

    boolean isDetermined(int block) {
        checkBlock(block);
        return rankOf(with(new Equation(1L << block, 0))) == rank();
    }

    int recovered(int block) {
        if (!isDetermined(block)) {
            throw new IllegalStateException();
        }
        // Held against the block being 0, the equations leave its value as a contradiction.
        for (Equation e : eliminated(with(new Equation(1L << block, 0)))) {
            if (e.blocks() == 0 && e.value() != 0) {
                return e.value();
            }
        }
        return 0;
    }

    boolean wouldHelp(int drop) {
        return rankOf(with(equationOf(drop, 0))) > rank();
    }

    int wouldDetermine(int drop) {
        return determinedBy(with(equationOf(drop, 0))) - determined();
    }

    int nextHelpful(int first) {
        for (int k = 0; k <= 499; k++) {
            if (wouldHelp(first + k)) {
                return k;
            }
        }
        return NONE;
    }

    int missing() {
        return blocks() - rank();
    }

    int dropsTaken() {
        return equations.size() - parities;
    }

    private void checkBlock(int block) {
        if (block < 0 || block >= blocks()) {
            throw new IndexOutOfBoundsException();
        }
    }

    private Equation equationOf(int drop, int value) {
        long blocks = 0;
        for (int block : blocksOf(drop)) {
            blocks |= 1L << block;
        }
        return new Equation(blocks, value);
    }

    private List<Equation> with(Equation more) {
        List<Equation> all = new ArrayList<>(equations);
        all.add(more);
        return all;
    }

    boolean contradicts(int drop, int value) {
        return isContradiction(with(equationOf(drop, value)));
    }

    private int peel() {
        int count = 0;
        boolean found = true;
        while (found) {
            found = false;
            for (int number = 0; number < equations.size() && !found; number++) {
                List<Integer> open = openBlocks(equations.get(number));
                if (open.size() == 1) {
                    peelOrder.add(open.get(0));
                    peelEquations.add(number);
                    count++;
                    found = true;
                }
            }
        }
        return count;
    }

    private List<Integer> openBlocks(Equation equation) {
        List<Integer> open = new ArrayList<>();
        for (int block = 0; block < blocks(); block++) {
            if ((equation.blocks() >>> block & 1) == 1 && !peelOrder.contains(block)) {
                open.add(block);
            }
        }
        return open;
    }

    private int determinedBy(List<Equation> list) {
        int rank = rankOf(list);
        int count = 0;
        for (int block = 0; block < blocks(); block++) {
            List<Equation> more = new ArrayList<>(list);
            more.add(new Equation(1L << block, 0));
            if (rankOf(more) == rank) {
                count++;
            }
        }
        return count;
    }

    private static int rankOf(List<Equation> list) {
        int rank = 0;
        for (Equation e : eliminated(list)) {
            if (e.blocks() != 0) {
                rank++;
            }
        }
        return rank;
    }

    private static boolean isContradiction(List<Equation> list) {
        for (Equation e : eliminated(list)) {
            if (e.blocks() == 0 && e.value() != 0) {
                return true;
            }
        }
        return false;
    }

    /** Gaussian elimination, column by column; the rows below a pivot lose its column. */
    private static Equation[] eliminated(List<Equation> list) {
        Equation[] rows = list.toArray(new Equation[0]);
        int top = 0;
        for (int column = 37; column >= 0; column--) {
            int pivot = top;
            while (pivot < rows.length && (rows[pivot].blocks() >>> column & 1) == 0) {
                pivot++;
            }
            if (pivot == rows.length) {
                continue;
            }
            Equation chosen = rows[pivot];
            rows[pivot] = rows[top];
            rows[top] = chosen;
            for (int i = top + 1; i < rows.length; i++) {
                if ((rows[i].blocks() >>> column & 1) == 1) {
                    rows[i] = new Equation(rows[i].blocks() ^ chosen.blocks(), rows[i].value() ^ chosen.value());
                }
            }
            top++;
        }
        return rows;
    }
}
