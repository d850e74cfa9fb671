/** The edges that promises 1 to 6 name: the transfer, the weights, the blocks at the sender. */
public final class TransferEdgesTest extends Trials {
    private static final int[] FIRST_WEIGHTS = {3, 20, 8, 4, 3, 2, 1, 1, 1, 1, 1, 1};

    public static void main(String[] args) {
        new TransferEdgesTest().runAll();
    }

    @Sentence("Promise 1: Makes a code with the first weights and a transfer with one source block and no parity block.")
    void newCodeHasOneBlockAndNothingElse() {
        due(1, "blocks");
        due(0, "blockAt", 0);
        due(0, "equations");
        due(0, "rank");
        due(0, "peeled");
        due(0, "determined");
        due(1, "missing");
        due(NONE, "peeledBy", 0);
        due(false, "isDetermined", 0);
        due(0, "setBlock", 0, 5);
        dueUnchanged(INDEX, "setBlock", 1, 5);
        dueUnchanged(INDEX, "blockAt", 1);
        dueUnchanged(INDEX, "peeledAt", 0);
        dueUnchanged(INDEX, "peeledBy", 1);
        dueUnchanged(INDEX, "isDetermined", 1);
        dueUnchanged(STATE, "recovered", 0);
        dueUnchanged(INDEX, "recovered", 1);
    }

    @Sentence("Terms: A new code has a transfer with one source block and no parity block.")
    void newCodeTakesDropsWithoutStart() {
        due(1, "degree", 99);
        due(0, "blockOf", 99, 0);
        due(INDEX, "blockOf", 99, 1);
        due(true, "wouldHelp", 99);
        due(1, "wouldDetermine", 99);
        due(0, "nextHelpful", 99);
        due(1, "receive", 99, MIN);
        due(MIN, "recovered", 0);
        due(NONE, "nextHelpful", 99);
    }

    @Sentence("Terms: At first the weights of the degrees 1 to 12 are 3, 20, 8, 4, 3, 2, 1, 1, 1, 1, 1, 1.")
    void newCodeHasFirstWeights() {
        for (int degree = 1; degree <= 12; degree++) {
            due(FIRST_WEIGHTS[degree - 1], "setWeight", degree, FIRST_WEIGHTS[degree - 1]);
        }
        make("start", 12, 0);
        for (int drop = 0; drop < 300; drop++) {
            // The model draws by the same weights.
            make("degree", drop);
        }
    }

    @Sentence("The constants: `NONE = -1`: Returned if there is no such thing.")
    void noneIsReturnedForWhatThereIsNot() {
        checks.same("NONE", -1, FountainCode.NONE);
        due(FountainCode.NONE, "peeledBy", 0);
        make("receive", 0, 0);
        due(FountainCode.NONE, "nextHelpful", 0);
        due(0, "peeledBy", 0);
    }

    @Sentence("What it is: An object is used for at most 512 calls after it has been made")
    void the512thCallIsAnsweredAsTheFirst() {
        make("start", 32, 6);
        for (int call = 2; call < 512; call++) {
            make(call % 2 == 0 ? "valueOf" : "nextHelpful", call);
        }
        due(32, "missing");
        beginAnew();
        for (int call = 1; call < 512; call += 2) {
            make("start", 32, 6);
            make("receiveAll", call, 40);
        }
    }

    @Sentence("Promise 2: `sources`: the number of source blocks S, 1 to 32")
    void startTakesSourcesFrom1To32() {
        startMidway();
        for (int sources : new int[] {0, 33, -1, 65, MIN, MAX}) {
            dueUnchanged(ARGUMENT, "start", sources, 0);
            dueUnchanged(ARGUMENT, "start", sources, 6);
        }
        due(0, "start", 1, 0);
        due(1, "blocks");
        due(0, "start", 32, 0);
        due(32, "blocks");
        due(0, "setBlock", 31, 4);
    }

    @Sentence("Promise 2: `parities`: the number of parity blocks P, 0 to 6")
    void startTakesParitiesFrom0To6() {
        startMidway();
        for (int parities : new int[] {-1, 7, 32, MIN, MAX}) {
            dueUnchanged(ARGUMENT, "start", 1, parities);
            dueUnchanged(ARGUMENT, "start", 32, parities);
        }
        due(0, "start", 32, 0);
        due(0, "equations");
        due(0, "start", 32, 6);
        due(6, "equations");
        due(38, "blocks");
    }

    @Sentence("Promise 2: Throws `IllegalArgumentException` if sources or parities is out of range")
    void startIsRefusedForBothNumbersToo() {
        startMidway();
        dueUnchanged(ARGUMENT, "start", 0, -1);
        dueUnchanged(ARGUMENT, "start", 33, 7);
        dueUnchanged(ARGUMENT, "start", 0, 7);
        // Ranges that only hold for the sum of both do not count.
        dueUnchanged(ARGUMENT, "start", 39, -1);
        dueUnchanged(ARGUMENT, "start", -1, 3);
        dueUnchanged(ARGUMENT, "start", MAX, MIN);
        dueUnchanged(ARGUMENT, "start", MIN, MAX);
        due(11, "blocks");
    }

    @Sentence("Promise 2: Returns the number of blocks that are peeled at once.")
    void startPeelsParityBlocksThatCoverNothing() {
        for (int sources = 1; sources <= 32; sources++) {
            for (int parities = 0; parities <= 6; parities++) {
                // Parity j covers something as soon as there is a source with i + 1 = 2^j.
                int covering = 32 - Integer.numberOfLeadingZeros(sources);
                due(Math.max(0, parities - covering), "start", sources, parities);
                due(Math.max(0, parities - covering), "peeled");
            }
        }
    }

    @Sentence("Promise 2: All source blocks have the value 0, and the receiver has no drop.")
    void startClearsBlocksAndDrops() {
        make("start", 32, 0);
        for (int block = 0; block < 32; block++) {
            make("setBlock", block, block + 1);
        }
        make("receiveAll", 0, 40);
        due(0, "start", 2, 1);
        due(1, "equations");
        due(1, "rank");
        due(0, "peeled");
        due(0, "determined");
        // Blocks that a small transfer leaves out are 0 too when they come back.
        due(0, "start", 32, 0);
        for (int block = 0; block < 32; block++) {
            due(0, "blockAt", block);
            due(NONE, "peeledBy", block);
            due(false, "isDetermined", block);
        }
        due(0, "equations");
        due(32, "missing");
    }

    @Sentence("Promise 2: Starts a transfer.")
    void startOfTheSameSizeIsANewTransferToo() {
        make("start", 3, 1);
        make("setBlock", 1, 44);
        take(9, 0);
        take(9, 1);
        due(0, "start", 3, 1);
        due(0, "blockAt", 1);
        due(1, "equations");
        due(0, "peeled");
        due(1, "receive", dropOf(0), 8);
    }

    @Sentence("Terms: Weights belong to the code and stay when a transfer starts.")
    void startLeavesWeights() {
        onlyDegree(12, 1000);
        make("start", 13, 0);
        due(12, "degree", 0);
        make("start", 1, 0);
        make("start", 32, 6);
        due(12, "degree", 0);
        due(1000, "setWeight", 12, 1);
        for (int degree = 1; degree < 12; degree++) {
            due(0, "setWeight", degree, 0);
        }
    }

    @Sentence("Promise 3: `degree`: 1 to 12")
    void setWeightTakesDegreesFrom1To12() {
        startMidway();
        for (int degree : new int[] {0, 13, -1, -12, 24, MIN, MAX}) {
            dueUnchanged(ARGUMENT, "setWeight", degree, 1);
            dueUnchanged(ARGUMENT, "setWeight", degree, 0);
        }
        due(3, "setWeight", 1, 10);
        due(1, "setWeight", 12, 20);
        due(10, "setWeight", 1, 10);
        due(20, "setWeight", 12, 20);
        due(20, "setWeight", 2, 20);
        due(1, "setWeight", 11, 1);
    }

    @Sentence("Promise 3: `weight`: 0 to 1000")
    void setWeightTakesWeightsFrom0To1000() {
        startMidway();
        for (int weight : new int[] {-1, 1001, -1000, MIN, MAX}) {
            dueUnchanged(ARGUMENT, "setWeight", 1, weight);
            dueUnchanged(ARGUMENT, "setWeight", 12, weight);
        }
        due(3, "setWeight", 1, 0);
        due(0, "setWeight", 1, 1000);
        due(1000, "setWeight", 1, 999);
        due(999, "setWeight", 1, 1);
        due(1, "setWeight", 1, 3);
    }

    @Sentence("Promise 3: Returns the weight before.")
    void setWeightAnswersTheWeightBefore() {
        due(20, "setWeight", 2, 20);
        due(20, "setWeight", 2, 0);
        due(0, "setWeight", 2, 0);
        // A refused call has set nothing.
        due(ARGUMENT, "setWeight", 2, 1001);
        due(0, "setWeight", 2, 1000);
        due(1000, "setWeight", 2, 1000);
    }

    @Sentence("Promise 3: Throws `IllegalArgumentException` if degree or weight is out of range")
    void setWeightIsRefusedForBothNumbersToo() {
        startMidway();
        dueUnchanged(ARGUMENT, "setWeight", 0, -1);
        dueUnchanged(ARGUMENT, "setWeight", 13, 1001);
        dueUnchanged(ARGUMENT, "setWeight", MAX, MIN);
        dueUnchanged(ARGUMENT, "setWeight", MIN, MAX);
        // The two numbers the wrong way round.
        dueUnchanged(ARGUMENT, "setWeight", 20, 2);
        dueUnchanged(ARGUMENT, "setWeight", 1000, 12);
    }

    @Sentence("Promise 3: Throws `IllegalStateException` if the sum of all weights would be 0")
    void setWeightKeepsOneWeight() {
        startMidway();
        for (int only : new int[] {1, 6, 12}) {
            onlyDegree(only);
            dueUnchanged(STATE, "setWeight", only, 0);
            due(1, "setWeight", only, 1000);
            dueUnchanged(STATE, "setWeight", only, 0);
            due(1000, "setWeight", only, 1);
            // A weight that is 0 already may be set to 0.
            due(0, "setWeight", 7, 0);
        }
        due(0, "setWeight", 1, 1);
        due(1, "setWeight", 12, 0);
        dueUnchanged(STATE, "setWeight", 1, 0);
    }

    @Sentence("Terms: If several exceptions apply, the one that stands first in the throws clause is thrown.")
    void setWeightOutOfRangeComesAheadOfTheSum() {
        onlyDegree(6, 7);
        // With the weight -7 the sum would be 0.
        dueUnchanged(ARGUMENT, "setWeight", 5, -7);
        dueUnchanged(ARGUMENT, "setWeight", 13, -7);
        dueUnchanged(ARGUMENT, "setWeight", 0, 0);
        dueUnchanged(STATE, "setWeight", 6, 0);
    }

    @Sentence("Promise 3: Equations that the receiver has already do not change.")
    void setWeightLeavesEquations() {
        make("start", 3, 0);
        onlyDegree(2);
        int pair = dropOf(0, 1);
        make("receive", pair, 6);
        onlyDegree(1);
        int single = dropOf(0);
        due(1, "rank");
        due(0, "peeled");
        // The pair's equation stays one of 0 and 1, though its drop would be drawn with one block now.
        due(2, "receive", single, 2);
        due(4, "recovered", 1);
        due(0, "peeledBy", 1);
        onlyDegree(3);
        due(2, "peeled");
        due(2, "rank");
        due(false, "isDetermined", 2);
        // The same number is another drop now.
        due(1, "receive", single, 7);
        due(7 ^ 2 ^ 4, "recovered", 2);
    }

    @Sentence("Promise 4: `block`: 0 to S - 1")
    void setBlockTakesSourceBlocksAlone() {
        startMidway();
        // The blocks from 8 on are parity blocks.
        for (int block : new int[] {-1, 8, 9, 10, 11, 32, 64, MIN, MAX}) {
            dueUnchanged(INDEX, "setBlock", block, 1);
        }
        due(1, "setBlock", 0, 2);
        due(1 << 28, "setBlock", 7, 3);
        due(2, "blockAt", 0);
        due(3, "blockAt", 7);
    }

    @Sentence("Promise 4: Throws `IndexOutOfBoundsException` if there is no such source block")
    void setBlockIsRefusedInTheSmallestAndTheLargestTransfer() {
        make("start", 1, 0);
        dueUnchanged(INDEX, "setBlock", 1, 7);
        dueUnchanged(INDEX, "setBlock", -1, 7);
        due(0, "setBlock", 0, 7);
        make("start", 1, 6);
        dueUnchanged(INDEX, "setBlock", 1, 7);
        dueUnchanged(INDEX, "setBlock", 6, 7);
        make("start", 32, 6);
        dueUnchanged(INDEX, "setBlock", 32, 7);
        dueUnchanged(INDEX, "setBlock", 37, 7);
        dueUnchanged(INDEX, "setBlock", 38, 7);
        due(0, "setBlock", 31, 7);
    }

    @Sentence("Promise 4: `value`: any number")
    void setBlockTakesAnyValue() {
        make("start", 2, 0);
        int before = 0;
        for (int value : new int[] {MIN, MAX, -1, 1, 0}) {
            due(before, "setBlock", 1, value);
            due(value, "blockAt", 1);
            due(0, "blockAt", 0);
            before = value;
        }
    }

    @Sentence("Promise 4: Returns the value before.")
    void setBlockAnswersTheValueBefore() {
        make("start", 2, 0);
        due(0, "setBlock", 1, 31);
        due(31, "setBlock", 1, 31);
        due(31, "setBlock", 1, 0);
        due(0, "setBlock", 0, 32);
        due(0, "setBlock", 1, 0);
    }

    @Sentence("Promise 4: The equations of the receiver do not change.")
    void setBlockLeavesEquations() {
        make("start", 2, 1);
        make("setBlock", 0, 11);
        make("setBlock", 1, 22);
        int pair = dropOf(0, 1);
        due(1, "receiveAll", pair, 1);
        make("setBlock", 0, 99);
        dueUnchanged(STATE, "receive", pair, 99 ^ 22);
        dueUnchanged(0, "receiveAll", pair, 1);
        due(0, "receive", pair, 11 ^ 22);
        // Parity block 2 covers source block 0.
        due(3, "receive", dropOf(1), 22);
        due(11, "recovered", 0);
        due(11, "recovered", 2);
        due(99, "blockAt", 0);
        due(99, "blockAt", 2);
    }

    @Sentence("Terms: The source blocks have the numbers 0 to S - 1, the parity blocks S to S + P - 1; B = S + P is the number of all blocks.")
    void parityBlocksFollowOnSourceBlocks() {
        make("start", 3, 2);
        due(5, "blocks");
        due(0, "setBlock", 2, 40);
        due(40, "blockAt", 2);
        // Both parity blocks cover source block 2.
        due(40, "blockAt", 3);
        due(40, "blockAt", 4);
        due(INDEX, "setBlock", 3, 1);
        due(INDEX, "setBlock", 4, 1);
        due(INDEX, "blockAt", 5);
    }

    @Sentence("Promise 5: Returns B.")
    void blocksCountsSourceAndParityBlocks() {
        for (int sources = 1; sources <= 32; sources++) {
            for (int parities = 0; parities <= 6; parities++) {
                make("start", sources, parities);
                due(sources + parities, "blocks");
            }
        }
    }

    @Sentence("Promise 6: `block`: 0 to B - 1")
    void blockAtTakesSourceAndParityBlocks() {
        startMidway();
        for (int block : new int[] {-1, 11, 12, 38, 64, MIN, MAX}) {
            dueUnchanged(INDEX, "blockAt", block);
        }
        due(1, "blockAt", 0);
        due(1 << 28, "blockAt", 7);
        due(0x01010101, "blockAt", 8);
        due(0x01111000, "blockAt", 10);
    }

    @Sentence("Promise 6: Throws `IndexOutOfBoundsException` if there is no such block")
    void blockAtIsRefusedInTheSmallestAndTheLargestTransfer() {
        make("start", 1, 0);
        due(0, "blockAt", 0);
        dueUnchanged(INDEX, "blockAt", 1);
        make("start", 32, 6);
        due(0, "blockAt", 37);
        dueUnchanged(INDEX, "blockAt", 38);
        // A block of the transfer before is none of this one.
        make("start", 31, 6);
        due(0, "blockAt", 36);
        dueUnchanged(INDEX, "blockAt", 37);
    }

    @Sentence("Terms: The value of a source block is 0 until it is set.")
    void blockAtIs0Before() {
        make("start", 32, 6);
        make("setBlock", 31, 5);
        for (int block = 0; block < 31; block++) {
            due(0, "blockAt", block);
        }
        due(5, "blockAt", 31);
    }

    @Sentence("Terms: Parity block S + j covers source block i if bit j of the number i + 1 is 1")
    void parityBlocksCoverByTheNumberOfTheirSource() {
        make("start", 32, 6);
        for (int source : new int[] {0, 1, 2, 3, 6, 7, 14, 15, 30, 31}) {
            make("setBlock", source, 1);
            for (int parity = 0; parity < 6; parity++) {
                due((source + 1) / (1 << parity) % 2, "blockAt", 32 + parity);
            }
            make("setBlock", source, 0);
        }
    }

    @Sentence("Terms: its value is always the exclusive or of the values of the source blocks that it covers, 0 if there are none.")
    void parityBlocksFollowTheirSources() {
        make("start", 31, 6);
        for (int source = 0; source < 31; source++) {
            make("setBlock", source, 1 << source);
        }
        // Block 36 covers source 31 alone, and there is none.
        due(0, "blockAt", 36);
        due(0x7FFF8000, "blockAt", 35);
        due(0x55555555, "blockAt", 31);
        make("setBlock", 30, -1);
        due(~0x3FFF8000, "blockAt", 35);
        due(~0x15555555, "blockAt", 31);
        make("setBlock", 29, 0);
        due(~0x1FFF8000, "blockAt", 35);
        due(~0x15555555, "blockAt", 31);
        due(0, "blockAt", 36);
    }
}
