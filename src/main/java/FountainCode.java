import java.util.Arrays;

/**
 * A fountain code: a sender mixes blocks into any number of drops, and a receiver brings the blocks
 * back from whichever drops it catches, by peeling and, where peeling stalls, by elimination over
 * the two-element field.
 *
 * <p>A set of blocks is held as a long whose bit b stands for block b.
 */
public final class FountainCode {
    /** Returned if there is no such thing. */
    public static final int NONE = -1;

    private static final int MOST_SOURCES = 32;
    private static final int MOST_PARITIES = 6;
    private static final int MOST_BLOCKS = MOST_SOURCES + MOST_PARITIES;
    private static final int MOST_DEGREE = 12;
    private static final int MOST_WEIGHT = 1000;
    private static final int MOST_DROPS = 120;
    private static final int MOST_EQUATIONS = MOST_PARITIES + MOST_DROPS;
    private static final int MOST_AT_ONCE = 40;
    private static final int SEARCHED_DROPS = 500;

    private final Weights weights = new Weights();
    private final Sender sender = new Sender();
    private final Peeler peeler = new Peeler();
    private final Elimination elimination = new Elimination();
    // One drop that is drawn anew for every question, so that no call makes an object.
    private final Drop scratchDrop = new Drop();

    /** Makes a code with the first weights and a transfer with one source block and no parity block. */
    public FountainCode() {
        beginTransfer(1, 0);
    }

    /** Starts a transfer; returns the number of blocks that are peeled at once. */
    public int start(int sources, int parities) throws IllegalArgumentException {
        if (sources < 1 || sources > MOST_SOURCES || parities < 0 || parities > MOST_PARITIES) {
            throw new IllegalArgumentException("sources or parities out of range");
        }
        return beginTransfer(sources, parities);
    }

    /** Sets the weight of a degree; returns the weight before. */
    public int setWeight(int degree, int weight) throws IllegalArgumentException, IllegalStateException {
        if (degree < 1 || degree > MOST_DEGREE || weight < 0 || weight > MOST_WEIGHT) {
            throw new IllegalArgumentException("degree or weight out of range");
        }
        int before = weights.weightOf(degree);
        if (weights.sum() - before + weight == 0) {
            throw new IllegalStateException("the sum of all weights would be 0");
        }
        weights.change(degree, weight);
        return before;
    }

    /** Sets the value of a source block of the sender; returns the value before. */
    public int setBlock(int block, int value) throws IndexOutOfBoundsException {
        if (block < 0 || block >= sender.sourceCount()) {
            throw new IndexOutOfBoundsException("no such source block");
        }
        int before = sender.valueOfBlock(block);
        sender.change(block, value);
        return before;
    }

    /** Returns the number of all blocks. */
    public int blocks() {
        return sender.blockCount();
    }

    /** Returns the value that a block has at the sender. */
    public int blockAt(int block) throws IndexOutOfBoundsException {
        if (!isBlock(block)) {
            throw new IndexOutOfBoundsException("no such block");
        }
        return sender.valueOfBlock(block);
    }

    /** Returns the number of blocks of a drop. */
    public int degree(int drop) {
        return drawn(drop).size();
    }

    /** Returns the block of a drop at a place, in the order in which they are drawn. */
    public int blockOf(int drop, int place) throws IndexOutOfBoundsException {
        Drop drawn = drawn(drop);
        if (place < 0 || place >= drawn.size()) {
            throw new IndexOutOfBoundsException("no such place");
        }
        return drawn.blockInPlace(place);
    }

    /** Returns the value of a drop at the sender. */
    public int valueOf(int drop) {
        return sender.valueOfSet(drawn(drop).blockSet());
    }

    /** Lets the receiver take a drop with a given value; returns the number of blocks peeled by it. */
    public int receive(int drop, int value) throws IllegalStateException {
        long blockSet = drawn(drop).blockSet();
        if (!canTake(blockSet, value)) {
            throw new IllegalStateException("too many drops or a contradiction");
        }
        return take(blockSet, value);
    }

    /** Lets the receiver take drops as the sender makes them; returns the number of drops taken. */
    public int receiveAll(int first, int count) throws IllegalArgumentException {
        if (count < 1 || count > MOST_AT_ONCE) {
            throw new IllegalArgumentException("count out of range");
        }
        for (int taken = 0; taken < count; taken++) {
            long blockSet = drawn(first + taken).blockSet();
            int value = sender.valueOfSet(blockSet);
            if (!canTake(blockSet, value)) {
                return taken;
            }
            take(blockSet, value);
        }
        return count;
    }

    /** Returns the number of equations. */
    public int equations() {
        return peeler.equationCount();
    }

    /** Returns the rank of all equations. */
    public int rank() {
        return elimination.rowCount();
    }

    /** Returns the number of peeled blocks. */
    public int peeled() {
        return peeler.peeledCount();
    }

    /** Returns a peeled block, by its place in the order in which blocks were peeled. */
    public int peeledAt(int place) throws IndexOutOfBoundsException {
        if (place < 0 || place >= peeler.peeledCount()) {
            throw new IndexOutOfBoundsException("no such place");
        }
        return peeler.peeledInPlace(place);
    }

    /** Returns the equation by which a block was peeled, NONE if it is not peeled. */
    public int peeledBy(int block) throws IndexOutOfBoundsException {
        if (!isBlock(block)) {
            throw new IndexOutOfBoundsException("no such block");
        }
        return peeler.equationThatPeeled(block);
    }

    /** Returns the number of determined blocks. */
    public int determined() {
        // Exactly the determined blocks leave nothing behind.
        return elimination.countLeaving(0L, sender.blockCount());
    }

    /** Tells whether a block is determined. */
    public boolean isDetermined(int block) throws IndexOutOfBoundsException {
        if (!isBlock(block)) {
            throw new IndexOutOfBoundsException("no such block");
        }
        return elimination.fixes(block);
    }

    /** Returns the value of a block as the receiver finds it. */
    public int recovered(int block) throws IndexOutOfBoundsException, IllegalStateException {
        if (!isBlock(block)) {
            throw new IndexOutOfBoundsException("no such block");
        }
        if (!elimination.fixes(block)) {
            throw new IllegalStateException("the block is not determined");
        }
        return elimination.knownValue(setOf(block));
    }

    /** Tells whether the rank would be greater with a drop. */
    public boolean wouldHelp(int drop) {
        return elimination.remainder(drawn(drop).blockSet()) != 0L;
    }

    /** Returns how many blocks would be determined in addition if a drop were taken. */
    public int wouldDetermine(int drop) {
        long remainder = elimination.remainder(drawn(drop).blockSet());
        if (remainder == 0L) {
            return 0;
        }
        // With the drop, what leaves the same remainder as the drop leaves nothing.
        return elimination.countLeaving(remainder, sender.blockCount());
    }

    /** Finds the next drop that would help; returns its distance from the first, NONE if there is none. */
    public int nextHelpful(int first) {
        if (missing() == 0) {
            return NONE;
        }
        for (int k = 0; k < SEARCHED_DROPS; k++) {
            if (wouldHelp(first + k)) {
                return k;
            }
        }
        return NONE;
    }

    /** Returns the smallest number of further drops with which all blocks could be determined. */
    public int missing() {
        return sender.blockCount() - elimination.rowCount();
    }

    private int beginTransfer(int sources, int parities) {
        sender.begin(sources, parities);
        peeler.clear();
        elimination.clear();
        for (int parity = 0; parity < parities; parity++) {
            addEquation(setOf(sources + parity) | sender.coveredBy(parity), 0);
        }
        return peeler.peelOn();
    }

    private boolean isBlock(int block) {
        return block >= 0 && block < sender.blockCount();
    }

    private Drop drawn(int drop) {
        scratchDrop.draw(drop, weights, sender.blockCount());
        return scratchDrop;
    }

    private boolean canTake(long blockSet, int value) {
        int dropsTaken = peeler.equationCount() - sender.parityCount();
        return dropsTaken < MOST_DROPS && !elimination.contradicts(blockSet, value);
    }

    private int take(long blockSet, int value) {
        addEquation(blockSet, value);
        return peeler.peelOn();
    }

    private void addEquation(long blockSet, int value) {
        peeler.addEquation(blockSet);
        elimination.addEquation(blockSet, value);
    }

    private static long setOf(int block) {
        return 1L << block;
    }

    private static boolean holds(long blockSet, int block) {
        return (blockSet & setOf(block)) != 0L;
    }

    /** The lowest block of a set; MOST_BLOCKS or more if the set has no block below that. */
    private static int lowestOf(long blockSet) {
        return Long.bitCount((blockSet & -blockSet) - 1L);
    }

    /** The weights of the degrees, the one of degree d at index d - 1. */
    private static final class Weights {
        private static final int[] FIRST_WEIGHTS = {3, 20, 8, 4, 3, 2, 1, 1, 1, 1, 1, 1};

        private final int[] list = FIRST_WEIGHTS.clone();

        int sum() {
            int sum = 0;
            for (int i = 0; i < list.length; i++) {
                sum += list[i];
            }
            return sum;
        }

        int weightOf(int degree) {
            int index = degree - 1;
            return index >= 0 && index < list.length ? list[index] : 0;
        }

        void change(int degree, int weight) {
            int index = degree - 1;
            if (index >= 0 && index < list.length) {
                list[index] = weight;
            }
        }

        /** The smallest degree up to which the weights add up to more than a number. */
        int degreeFor(int number) {
            int sum = 0;
            for (int i = 0; i < list.length; i++) {
                sum += list[i];
                if (sum > number) {
                    return i + 1;
                }
            }
            return MOST_DEGREE;
        }
    }

    /** The sender's blocks; only source blocks are held, as parity blocks follow from them. */
    private static final class Sender {
        private final int[] sourceValues = new int[MOST_SOURCES];
        private int sources;
        private int parities;

        void begin(int sourceCount, int parityCount) {
            sources = sourceCount;
            parities = parityCount;
            Arrays.fill(sourceValues, 0);
        }

        int sourceCount() {
            return sources;
        }

        int parityCount() {
            return parities;
        }

        int blockCount() {
            return sources + parities;
        }

        void change(int source, int value) {
            if (source >= 0 && source < sourceValues.length) {
                sourceValues[source] = value;
            }
        }

        /** The source blocks that a parity block covers; parities are counted from 0 here. */
        long coveredBy(int parity) {
            long covered = 0L;
            for (int source = 0; source < sources; source++) {
                if (((source + 1) >> parity & 1) != 0) {
                    covered |= setOf(source);
                }
            }
            return covered;
        }

        int valueOfBlock(int block) {
            if (block >= sources) {
                return valueOfSources(coveredBy(block - sources));
            }
            return valueOfSources(setOf(block));
        }

        int valueOfSet(long blockSet) {
            int value = valueOfSources(blockSet);
            for (int block = sources; block < blockCount(); block++) {
                if (holds(blockSet, block)) {
                    value ^= valueOfBlock(block);
                }
            }
            return value;
        }

        /** The exclusive or over the source blocks of a set; its other blocks do not count. */
        private int valueOfSources(long blockSet) {
            int value = 0;
            for (int source = 0; source < sources && source < sourceValues.length; source++) {
                if (holds(blockSet, source)) {
                    value ^= sourceValues[source];
                }
            }
            return value;
        }
    }

    /** A drop as it is drawn: its number decides all. */
    private static final class Drop {
        private final int[] row = new int[MOST_BLOCKS];
        private long generator;
        private int size;
        private long blockSet;

        void draw(int number, Weights weights, int blockCount) {
            generator = number;
            size = Math.min(weights.degreeFor(numberBelow(weights.sum())), blockCount);
            lineUp(blockCount);
            blockSet = 0L;
            for (int place = 0; place < size && place < row.length; place++) {
                swap(place, place + numberBelow(blockCount - place));
                blockSet |= setOf(row[place]);
            }
        }

        int size() {
            return size;
        }

        long blockSet() {
            return blockSet;
        }

        int blockInPlace(int place) {
            return place >= 0 && place < row.length ? row[place] : NONE;
        }

        private int numberBelow(int bound) {
            generator = generator * 6364136223846793005L + 1442695040888963407L;
            if (bound <= 0) {
                return 0;
            }
            return (int) ((generator >>> 33) % bound);
        }

        private void lineUp(int blockCount) {
            for (int block = 0; block < blockCount && block < row.length; block++) {
                row[block] = block;
            }
        }

        private void swap(int place, int other) {
            if (place < 0 || place >= row.length || other < 0 || other >= row.length) {
                return;
            }
            int block = row[place];
            row[place] = row[other];
            row[other] = block;
        }
    }

    /** The equations in their order, and the blocks peeled with them. */
    private static final class Peeler {
        private final long[] equationSets = new long[MOST_EQUATIONS];
        private int equationCount;
        private final int[] peelOrder = new int[MOST_BLOCKS];
        private final int[] peelEquations = new int[MOST_BLOCKS];
        private int peeledCount;
        private long peeledSet;

        void clear() {
            equationCount = 0;
            peeledCount = 0;
            peeledSet = 0L;
            Arrays.fill(peelEquations, NONE);
        }

        void addEquation(long blockSet) {
            if (equationCount >= 0 && equationCount < equationSets.length) {
                equationSets[equationCount] = blockSet;
                equationCount++;
            }
        }

        /** Peels as far as it goes; returns the number of blocks peeled by it. */
        int peelOn() {
            int before = peeledCount;
            for (int step = 0; step < MOST_BLOCKS; step++) {
                int equation = lowestReady();
                if (equation == NONE) {
                    break;
                }
                peelWith(equation);
            }
            return peeledCount - before;
        }

        int equationCount() {
            return equationCount;
        }

        int peeledCount() {
            return peeledCount;
        }

        int peeledInPlace(int place) {
            return place >= 0 && place < peelOrder.length ? peelOrder[place] : NONE;
        }

        int equationThatPeeled(int block) {
            return block >= 0 && block < peelEquations.length ? peelEquations[block] : NONE;
        }

        /** The lowest equation in which exactly one block is not peeled yet. */
        private int lowestReady() {
            for (int i = 0; i < equationCount && i < equationSets.length; i++) {
                if (Long.bitCount(equationSets[i] & ~peeledSet) == 1) {
                    return i;
                }
            }
            return NONE;
        }

        private void peelWith(int equation) {
            if (equation < 0 || equation >= equationSets.length) {
                return;
            }
            int block = lowestOf(equationSets[equation] & ~peeledSet);
            if (block >= MOST_BLOCKS || peeledCount < 0 || peeledCount >= MOST_BLOCKS) {
                return;
            }
            peelOrder[peeledCount] = block;
            peelEquations[block] = equation;
            peeledSet |= setOf(block);
            peeledCount++;
        }
    }

    /**
     * The equations in reduced form. rows[b] is 0 or the one row that is led by block b; block b is
     * in no other row. So a set of blocks is reduced by the rows of its own blocks alone, in any
     * order, and a block is determined exactly if nothing of it remains.
     */
    private static final class Elimination {
        private final long[] rows = new long[MOST_BLOCKS];
        private final int[] values = new int[MOST_BLOCKS];
        private int rowCount;

        void clear() {
            rowCount = 0;
            Arrays.fill(rows, 0L);
            Arrays.fill(values, 0);
        }

        int rowCount() {
            return rowCount;
        }

        long remainder(long blockSet) {
            long rest = blockSet;
            for (int block = 0; block < MOST_BLOCKS; block++) {
                if (holds(blockSet, block)) {
                    rest ^= rows[block];
                }
            }
            return rest;
        }

        /** What the rows say of the value of the part of a set that they reduce. */
        int knownValue(long blockSet) {
            int value = 0;
            for (int block = 0; block < MOST_BLOCKS; block++) {
                if (holds(blockSet, block)) {
                    value ^= values[block];
                }
            }
            return value;
        }

        boolean contradicts(long blockSet, int value) {
            return remainder(blockSet) == 0L && knownValue(blockSet) != value;
        }

        boolean fixes(int block) {
            return remainderOfBlock(block) == 0L;
        }

        /** Counts the blocks that, reduced alone, leave a certain remainder. */
        int countLeaving(long remainder, int blockCount) {
            int count = 0;
            for (int block = 0; block < blockCount; block++) {
                if (remainderOfBlock(block) == remainder) {
                    count++;
                }
            }
            return count;
        }

        void addEquation(long blockSet, int value) {
            long rest = remainder(blockSet);
            int leader = lowestOf(rest);
            if (rest == 0L || leader >= MOST_BLOCKS) {
                return;
            }
            int restValue = value ^ knownValue(blockSet);
            for (int block = 0; block < MOST_BLOCKS; block++) {
                if (holds(rows[block], leader)) {
                    rows[block] ^= rest;
                    values[block] ^= restValue;
                }
            }
            rows[leader] = rest;
            values[leader] = restValue;
            rowCount++;
        }

        private long remainderOfBlock(int block) {
            long row = block >= 0 && block < MOST_BLOCKS ? rows[block] : 0L;
            return setOf(block) ^ row;
        }
    }
}
