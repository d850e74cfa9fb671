import java.math.BigInteger;

/** The edges that promises 7 to 9 and the drops' terms name. */
public final class DropEdgesTest extends Trials {
    private static final int[] FAR_DROPS = {0, 1, -1, MAX, MIN, MAX - 1, MIN + 1};

    public static void main(String[] args) {
        new DropEdgesTest().runAll();
    }

    /** The number that a drop's generator draws first, below a bound, without a long that wraps around. */
    private static int firstDrawn(int drop, int bound) {
        BigInteger generator = BigInteger.valueOf(drop)
            .multiply(new BigInteger("6364136223846793005"))
            .add(new BigInteger("1442695040888963407"))
            .mod(BigInteger.TWO.pow(64));
        return generator.shiftRight(33).mod(BigInteger.valueOf(bound)).intValue();
    }

    /** The first drop from a number on whose generator first draws a certain number. */
    private static int dropThatDraws(int from, int number, int bound) {
        for (int drop = from; drop < from + 1_000_000; drop++) {
            if (firstDrawn(drop, bound) == number) {
                return drop;
            }
        }
        throw new AssertionError("nothing draws " + number + " below " + bound);
    }

    @Sentence("Terms: Every int is the number of a drop.")
    void everyIntIsADrop() {
        make("start", 32, 6);
        due(2, "degree", 0);
        due(9, "degree", -1);
        due(7, "degree", MAX);
        due(2, "degree", MIN);
        for (int drop : FAR_DROPS) {
            make("degree", drop);
            make("blockOf", drop, 0);
            make("valueOf", drop);
            make("wouldHelp", drop);
            make("wouldDetermine", drop);
            make("nextHelpful", drop);
        }
    }

    @Sentence("Terms: the generator becomes generator * 6364136223846793005L + 1442695040888963407L, as a long that wraps around")
    void generatorWrapsAround() {
        for (int degree = 1; degree <= 12; degree++) {
            make("setWeight", degree, 1);
        }
        make("start", 12, 0);
        for (int drop : FAR_DROPS) {
            due(firstDrawn(drop, 12) + 1, "degree", drop);
        }
        for (int step = 1; step < 100; step++) {
            due(firstDrawn(step * 77777777, 12) + 1, "degree", step * 77777777);
        }
    }

    @Sentence("Terms: let r be a number drawn below the sum of all weights")
    void smallestAndLargestSumOfWeights() {
        make("start", 12, 0);
        onlyDegree(5);
        // Below 1 there is 0 alone.
        for (int drop : FAR_DROPS) {
            due(5, "degree", drop);
        }
        for (int degree = 1; degree <= 12; degree++) {
            make("setWeight", degree, 1000);
        }
        due(1, "degree", dropThatDraws(0, 0, 12000));
        due(12, "degree", dropThatDraws(0, 11999, 12000));
        due(12, "degree", dropThatDraws(-999_999, 11000, 12000));
        due(11, "degree", dropThatDraws(-999_999, 10999, 12000));
    }

    @Sentence("Terms: d is the smallest degree for which the weights of the degrees 1 to d add up to more than r.")
    void degreeChangesWhereTheWeightsAddUp() {
        make("start", 32, 0);
        int sum = 46;
        int[] lastNumbers = {2, 22, 30, 34, 37, 39, 40, 41, 42, 43, 44, 45};
        for (int degree = 1; degree <= 12; degree++) {
            due(degree, "degree", dropThatDraws(0, lastNumbers[degree - 1], sum));
            if (degree < 12) {
                due(degree + 1, "degree", dropThatDraws(0, lastNumbers[degree - 1] + 1, sum));
            }
        }
        due(1, "degree", dropThatDraws(0, 0, sum));
    }

    @Sentence("Terms: d is the smallest degree for which the weights of the degrees 1 to d add up to more than r.")
    void degreesWithoutWeightAreSkipped() {
        make("start", 32, 0);
        onlyDegree(4, 3);
        make("setWeight", 9, 2);
        // 0, 1 and 2 are below the weight of degree 4, 3 and 4 are not.
        due(4, "degree", dropThatDraws(0, 0, 5));
        due(4, "degree", dropThatDraws(0, 2, 5));
        due(9, "degree", dropThatDraws(0, 3, 5));
        due(9, "degree", dropThatDraws(0, 4, 5));
        make("setWeight", 4, 0);
        due(9, "degree", dropThatDraws(0, 0, 2));
        due(9, "degree", dropThatDraws(0, 1, 2));
    }

    @Sentence("Promise 7: Returns 1 to 12.")
    void degreeIsFrom1To12() {
        make("start", 32, 6);
        onlyDegree(1);
        for (int drop : FAR_DROPS) {
            due(1, "degree", drop);
        }
        onlyDegree(12);
        for (int drop : FAR_DROPS) {
            due(12, "degree", drop);
        }
    }

    @Sentence("Promise 7: `drop`: any number")
    void degreeTakesAnyNumber() {
        int[] firstDegrees = {2, 4, 9, 7, 2, 2, 4};
        make("start", 32, 6);
        for (int i = 0; i < FAR_DROPS.length; i++) {
            due(firstDegrees[i], "degree", FAR_DROPS[i]);
        }
    }

    @Sentence("Terms: The drop has d blocks, or B if d is greater than B.")
    void degreeIsAtMostTheNumberOfBlocks() {
        onlyDegree(12);
        for (int sources = 1; sources <= 13; sources++) {
            make("start", sources, 0);
            due(Math.min(12, sources), "degree", sources);
        }
        // Parity blocks count too.
        for (int parities = 0; parities <= 6; parities++) {
            make("start", 7, parities);
            due(Math.min(12, 7 + parities), "degree", MAX);
        }
        onlyDegree(3);
        make("start", 2, 0);
        due(2, "degree", 4);
        make("start", 3, 0);
        due(3, "degree", 4);
        make("start", 4, 0);
        due(3, "degree", 4);
    }

    @Sentence("Promise 8: `drop`: any number")
    void blockOfTakesAnyNumber() {
        make("start", 32, 6);
        due(12, "blockOf", 0, 0);
        due(13, "blockOf", 0, 1);
        due(7, "blockOf", -1, 0);
        due(10, "blockOf", -1, 8);
        due(4, "blockOf", MAX, 0);
        due(37, "blockOf", MAX, 6);
        due(16, "blockOf", MIN, 0);
        due(5, "blockOf", MIN, 1);
    }

    @Sentence("Promise 8: `place`: 0 to degree(drop) - 1")
    void blockOfTakesThePlacesOfTheDrop() {
        startMidway();
        for (int degree : new int[] {1, 2, 11, 12}) {
            onlyDegree(degree);
            int size = Math.min(degree, 11);
            make("blockOf", 5, 0);
            make("blockOf", 5, size - 1);
            for (int place : new int[] {-1, size, size + 1, 12, 13, MIN, MAX}) {
                dueUnchanged(INDEX, "blockOf", 5, place);
            }
        }
    }

    @Sentence("Promise 8: Throws `IndexOutOfBoundsException` if there is no such place")
    void blockOfIsRefusedBehindACutDegree() {
        onlyDegree(12);
        for (int drop : FAR_DROPS) {
            due(0, "blockOf", drop, 0);
            dueUnchanged(INDEX, "blockOf", drop, 1);
            dueUnchanged(INDEX, "blockOf", drop, -1);
        }
        make("start", 2, 3);
        make("blockOf", 0, 4);
        dueUnchanged(INDEX, "blockOf", 0, 5);
        dueUnchanged(INDEX, "blockOf", 0, 11);
    }

    @Sentence("Promise 8: Returns the block at this place, in the order in which they are drawn.")
    void blockOfFollowsTheDrawing() {
        make("start", 32, 6);
        int[] blocks = {29, 32, 8, 31, 16, 21, 34, 9, 36, 12, 35, 7};
        for (int place = 0; place < 12; place++) {
            due(blocks[place], "blockOf", 274, place);
        }
        // A drop of all blocks has each of them once.
        onlyDegree(12);
        make("start", 6, 6);
        for (int drop : FAR_DROPS) {
            int seen = 0;
            for (int block : model.blocksOf(drop)) {
                seen |= 1 << block;
            }
            checks.same("the blocks of drop " + drop, (1 << 12) - 1, seen);
            for (int place = 0; place < 12; place++) {
                make("blockOf", drop, place);
            }
        }
    }

    @Sentence("Terms: the numbers at the places p and p + q of the row change places (they stay if q is 0)")
    void firstAndLastBlockOfTheRowAreDrawn() {
        onlyDegree(1);
        make("start", 32, 6);
        // A single block's q is its own number: 0 stays where it is, 37 is the end of the row.
        for (int block : new int[] {0, 1, 36, 37}) {
            int drop = firstOfSingles(block);
            due(1, "degree", drop);
            due(block, "blockOf", drop, 0);
        }
        onlyDegree(2);
        make("start", 2, 0);
        due(0, "blockOf", dropThatStartsWith(0), 0);
        due(1, "blockOf", dropThatStartsWith(0), 1);
        due(1, "blockOf", dropThatStartsWith(1), 0);
        due(0, "blockOf", dropThatStartsWith(1), 1);
    }

    private int dropThatStartsWith(int block) {
        for (int drop = 0; drop < 1000; drop++) {
            if (model.blocksOf(drop).get(0) == block) {
                return drop;
            }
        }
        throw new AssertionError("no drop starts with " + block);
    }

    @Sentence("Terms: They are drawn from a row of the numbers 0 to B - 1 in ascending order")
    void everyDropStartsWithANewRow() {
        make("start", 5, 0);
        onlyDegree(12);
        int[] first = new int[5];
        for (int place = 0; place < 5; place++) {
            first[place] = model.blocksOf(-7).get(place);
            due(first[place], "blockOf", -7, place);
        }
        make("degree", 3);
        make("valueOf", 4);
        make("nextHelpful", 5);
        for (int place = 4; place >= 0; place--) {
            due(first[place], "blockOf", -7, place);
        }
    }

    @Sentence("Promise 9: Returns the exclusive or of the values that its blocks have at the sender.")
    void valueOfIsTheSendersAtThatTime() {
        make("start", 2, 1);
        int all = dropOf(0, 1, 2);
        int pair = dropOf(0, 2);
        int single = dropOf(2);
        due(0, "valueOf", all);
        make("setBlock", 0, MIN);
        make("setBlock", 1, 77);
        due(MIN, "valueOf", single);
        // Parity block 2 covers source block 0: together they are 0.
        due(0, "valueOf", pair);
        due(77, "valueOf", all);
        // What the receiver takes does not matter to the sender.
        make("receive", single, 5);
        due(MIN, "valueOf", single);
        make("setBlock", 0, MAX);
        due(MAX, "valueOf", single);
        due(77, "valueOf", all);
        make("start", 2, 1);
        due(0, "valueOf", all);
    }

    @Sentence("Promise 9: `drop`: any number")
    void valueOfTakesAnyNumber() {
        make("setBlock", 0, -1);
        for (int drop : FAR_DROPS) {
            due(-1, "valueOf", drop);
        }
        make("start", 32, 6);
        for (int block = 0; block < 32; block++) {
            make("setBlock", block, 1 << block);
        }
        // The blocks of these drops, with the parity blocks 32, 35, 36 and 37 among them.
        due(1 << 12 | 1 << 13, "valueOf", 0);
        due(1 << 16 | 1 << 5, "valueOf", MIN);
        due((1 << 4 | 1 | 1 << 17 | 1 << 7 | 1 << 31) ^ 0x7FFF8000 ^ 0x80000000, "valueOf", MAX);
    }
}
