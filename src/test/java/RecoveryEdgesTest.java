/** The edges that promises 13 to 19 and the terms of peeling and elimination name. */
public final class RecoveryEdgesTest extends Trials {
    public static void main(String[] args) {
        new RecoveryEdgesTest().runAll();
    }

    @Sentence("Promise 13: Returns the rank of all equations.")
    void rankFromNothingToAllBlocks() {
        make("start", 32, 0);
        due(0, "rank");
        make("start", 32, 6);
        due(6, "rank");
        make("receiveAll", 0, 40);
        make("receiveAll", 40, 40);
        make("receiveAll", 80, 40);
        due(38, "rank");
        make("start", 1, 6);
        due(6, "rank");
        due(1, "receiveAll", 0, 1);
        due(7, "rank");
        due(40, "receiveAll", 1, 40);
        due(7, "rank");
    }

    @Sentence("Terms: The rank is the greatest number of equations of which none follows from the others, where an equation counts by its blocks alone")
    void equationsThatFollowDoNotCount() {
        make("start", 4, 1);
        // Equation 0 says the same of the parity block 4 and of the blocks 0 and 2.
        take(0, 0, 2, 4);
        due(1, "rank");
        take(5, 0, 1);
        take(5, 0, 1);
        due(2, "rank");
        take(9, 1, 2);
        take(5 ^ 9, 0, 2);
        due(3, "rank");
        take(5 ^ 9, 4);
        due(3, "rank");
        due(7, "equations");
    }

    @Sentence("Promise 14: Returns 0 to B.")
    void peeledFromNothingToAllBlocks() {
        due(0, "peeled");
        make("start", 32, 6);
        due(0, "peeled");
        onlyDegree(1);
        for (int block = 0; block < 32; block++) {
            make("receive", firstOfSingles(block), block);
        }
        // The parity blocks follow from their equations.
        due(38, "peeled");
        due(37, "peeledAt", 37);
        due(5, "peeledBy", 37);
        dueUnchanged(INDEX, "peeledAt", 38);
        make("start", 1, 6);
        due(5, "peeled");
    }

    @Sentence("Promise 15: `place`: from 0, in the order in which blocks were peeled")
    void peeledAtHasThePlacesFrom0() {
        make("start", 5, 0);
        take(1, 4);
        take(1, 2);
        due(4, "peeledAt", 0);
        due(2, "peeledAt", 1);
        take(0, 0, 1);
        take(0, 0);
        due(4, "peeledAt", 0);
        due(2, "peeledAt", 1);
        due(0, "peeledAt", 2);
        due(1, "peeledAt", 3);
        dueUnchanged(INDEX, "peeledAt", 4);
    }

    @Sentence("Promise 15: Throws `IndexOutOfBoundsException` if there is no such place")
    void peeledAtIsRefusedBehindThePeeledBlocks() {
        for (int place : new int[] {0, -1, 1, MIN, MAX}) {
            dueUnchanged(INDEX, "peeledAt", place);
        }
        startMidway();
        due(7, "peeledAt", 0);
        for (int place : new int[] {-1, 1, 2, 10, 11, 37, 38, MIN, MAX}) {
            dueUnchanged(INDEX, "peeledAt", place);
        }
        // A place that the transfer before had is gone.
        make("start", 8, 3);
        dueUnchanged(INDEX, "peeledAt", 0);
    }

    @Sentence("Promise 16: Returns the number of the equation; NONE if the block is not peeled.")
    void peeledByNamesTheFirstAndTheLastEquation() {
        make("start", 1, 6);
        due(1, "peeledBy", 2);
        due(5, "peeledBy", 6);
        due(NONE, "peeledBy", 0);
        due(NONE, "peeledBy", 1);
        due(2, "receive", dropOf(1), 4);
        due(6, "peeledBy", 1);
        due(0, "peeledBy", 0);
        make("start", 32, 6);
        takePairs(119, 3);
        due(NONE, "peeledBy", 0);
        due(2, "receive", dropOf(1), 4);
        due(125, "peeledBy", 1);
        due(6, "peeledBy", 0);
        due(NONE, "peeledBy", 37);
    }

    @Sentence("Promise 16: Returns the number of the equation; NONE if the block is not peeled.")
    void peeledByIsNoneForBlocksOfEliminationAlone() {
        startMidway();
        for (int block = 0; block < 11; block++) {
            due(block == 7 ? 3 : NONE, "peeledBy", block);
        }
        due(true, "isDetermined", 1);
        // Later equations do not change by what a block was peeled.
        take(70, 7);
        due(3, "peeledBy", 7);
        make("start", 8, 3);
        due(NONE, "peeledBy", 7);
    }

    @Sentence("Promise 16: `block`: 0 to B - 1")
    void peeledByTakesSourceAndParityBlocks() {
        make("start", 3, 6);
        due(NONE, "peeledBy", 0);
        due(NONE, "peeledBy", 2);
        due(NONE, "peeledBy", 3);
        due(2, "peeledBy", 5);
        due(5, "peeledBy", 8);
        due(INDEX, "peeledBy", 9);
        due(INDEX, "peeledBy", -1);
    }

    @Sentence("Promise 16: Throws `IndexOutOfBoundsException` if there is no such block")
    void peeledByIsRefusedBesideTheBlocks() {
        dueUnchanged(INDEX, "peeledBy", 1);
        startMidway();
        due(NONE, "peeledBy", 0);
        due(NONE, "peeledBy", 10);
        for (int block : new int[] {-1, 11, 12, 38, 64, MIN, MAX}) {
            dueUnchanged(INDEX, "peeledBy", block);
        }
        make("start", 32, 6);
        due(NONE, "peeledBy", 37);
        dueUnchanged(INDEX, "peeledBy", 38);
    }

    @Sentence("Terms: the one with the lowest number is used, and this block is peeled; its value follows.")
    void peelingUsesTheLowestEquation() {
        make("start", 5, 0);
        take(1, 0, 1);
        take(1, 0, 1);
        take(3, 1, 2);
        take(2, 0, 2);
        take(9, 3, 4);
        // With block 2, the equations 2 and 3 can both be used: 2 is, and after it 0.
        due(3, "receive", dropOf(2), 64);
        due(2, "peeledAt", 0);
        due(1, "peeledAt", 1);
        due(0, "peeledAt", 2);
        due(5, "peeledBy", 2);
        due(2, "peeledBy", 1);
        due(0, "peeledBy", 0);
        due(64 ^ 3, "recovered", 1);
        due(64 ^ 3 ^ 1, "recovered", 0);
    }

    @Sentence("Terms: the one with the lowest number is used, and this block is peeled; its value follows.")
    void aPeeledBlockMayOpenALowerEquation() {
        make("start", 4, 0);
        take(1, 2, 3);
        take(2, 1, 2);
        take(4, 0, 1);
        due(4, "receive", dropOf(0), 8);
        due(0, "peeledAt", 0);
        due(1, "peeledAt", 1);
        due(2, "peeledAt", 2);
        due(3, "peeledAt", 3);
        due(0, "peeledBy", 3);
        due(3, "peeledBy", 0);
    }

    @Sentence("Terms: When a transfer starts, and after each drop taken, the receiver peels")
    void dropsWithoutANewBlockPeelNothing() {
        make("start", 3, 0);
        due(1, "receive", dropOf(0), 1);
        due(1, "receive", dropOf(0, 1), 3);
        due(0, "receive", dropOf(0, 1), 3);
        due(0, "receive", dropOf(1), 2);
        due(2, "peeled");
        due(0, "peeledBy", 0);
        due(1, "peeledBy", 1);
        due(NONE, "peeledBy", 2);
    }

    @Sentence("Terms: Blocks stay peeled.")
    void blocksStayPeeled() {
        make("start", 3, 0);
        take(5, 1);
        make("setBlock", 1, 9);
        due(STATE, "receive", dropOf(1), 9);
        due(1, "receive", dropOf(1, 2), 40);
        onlyDegree(3);
        due(1, "receive", dropOf(0, 1, 2), 80);
        due(3, "peeled");
        due(1, "peeledAt", 0);
        due(0, "peeledBy", 1);
        due(5, "recovered", 1);
    }

    @Sentence("Promise 17: Returns 0 to B.")
    void determinedFromNothingToAllBlocks() {
        due(0, "determined");
        make("start", 32, 6);
        due(0, "determined");
        make("receiveAll", 0, 40);
        make("receiveAll", 40, 40);
        make("receiveAll", 80, 40);
        due(38, "determined");
        make("start", 1, 6);
        due(5, "determined");
    }

    @Sentence("Terms: A block is determined if all values of the blocks that satisfy all equations have the same value for it.")
    void determinedWithoutBeingPeeled() {
        startMidway();
        due(4, "determined");
        due(1, "peeled");
        for (int block = 0; block < 11; block++) {
            due(block < 3 || block == 7, "isDetermined", block);
        }
        due(7 ^ 2, "recovered", 0);
        due(7 ^ 2 ^ 1, "recovered", 1);
        due(7 ^ 1, "recovered", 2);
        // All of 3, 4 and the parity blocks hang on one another still.
        take(11, 4);
        due(true, "isDetermined", 3);
        due(90 ^ 11, "recovered", 3);
        due(false, "isDetermined", 8);
    }

    @Sentence("Terms: Every peeled block is determined.")
    void peeledBlocksAreDetermined() {
        make("start", 1, 6);
        for (int block = 2; block < 7; block++) {
            due(true, "isDetermined", block);
            due(0, "recovered", block);
        }
        due(false, "isDetermined", 0);
        due(false, "isDetermined", 1);
        due(2, "receive", dropOf(0, 4), -9);
        due(-9, "recovered", 0);
        due(-9, "recovered", 1);
    }

    @Sentence("Promise 18: `block`: 0 to B - 1")
    void isDeterminedTakesSourceAndParityBlocks() {
        make("start", 3, 6);
        take(1, 0);
        due(true, "isDetermined", 0);
        due(false, "isDetermined", 2);
        due(false, "isDetermined", 3);
        due(true, "isDetermined", 5);
        due(true, "isDetermined", 8);
        due(INDEX, "isDetermined", 9);
        due(INDEX, "isDetermined", -1);
    }

    @Sentence("Promise 18: Throws `IndexOutOfBoundsException` if there is no such block")
    void isDeterminedIsRefusedBesideTheBlocks() {
        dueUnchanged(INDEX, "isDetermined", 1);
        startMidway();
        due(true, "isDetermined", 0);
        due(false, "isDetermined", 10);
        for (int block : new int[] {-1, 11, 12, 38, 64, MIN, MAX}) {
            dueUnchanged(INDEX, "isDetermined", block);
        }
        make("start", 32, 6);
        due(false, "isDetermined", 37);
        dueUnchanged(INDEX, "isDetermined", 38);
    }

    @Sentence("Promise 19: `block`: 0 to B - 1")
    void recoveredTakesSourceAndParityBlocks() {
        make("start", 3, 6);
        take(40, 0);
        take(2, 2);
        due(40, "recovered", 0);
        due(2, "recovered", 2);
        due(42, "recovered", 3);
        due(0, "recovered", 8);
        due(INDEX, "recovered", 9);
        due(INDEX, "recovered", -1);
    }

    @Sentence("Promise 19: Throws `IndexOutOfBoundsException` if there is no such block")
    void recoveredIsRefusedBesideTheBlocks() {
        dueUnchanged(INDEX, "recovered", 1);
        startMidway();
        // None of these blocks is determined either: the first exception of the clause it is.
        for (int block : new int[] {-1, 11, 12, 38, 64, MIN, MAX}) {
            dueUnchanged(INDEX, "recovered", block);
        }
        make("start", 32, 6);
        dueUnchanged(STATE, "recovered", 37);
        dueUnchanged(INDEX, "recovered", 38);
    }

    @Sentence("Promise 19: Throws `IllegalStateException` if the block is not determined")
    void recoveredIsRefusedForOpenBlocks() {
        dueUnchanged(STATE, "recovered", 0);
        startMidway();
        for (int block : new int[] {3, 4, 5, 6, 8, 9, 10}) {
            dueUnchanged(STATE, "recovered", block);
        }
        due(70, "recovered", 7);
        make("start", 8, 3);
        dueUnchanged(STATE, "recovered", 7);
    }

    @Sentence("Promise 19: Returns the value of a block as the receiver finds it.")
    void recoveredIsTheReceiversNotTheSenders() {
        make("start", 2, 1);
        make("setBlock", 0, 1);
        take(MIN, 0);
        due(MIN, "recovered", 0);
        due(MIN, "recovered", 2);
        due(1, "blockAt", 0);
        take(MAX, 1, 2);
        due(-1, "recovered", 1);
        due(0, "blockAt", 1);
    }
}
