import java.util.List;

/** The edges that promises 10 to 12 and the equations' terms name: drops taken and refused. */
public final class ReceiveEdgesTest extends Trials {
    public static void main(String[] args) {
        new ReceiveEdgesTest().runAll();
    }

    @Sentence("Promise 10: `drop`: any number")
    void receiveTakesAnyDrop() {
        make("start", 32, 6);
        int equations = 6;
        for (int drop : new int[] {0, 1, -1, MAX, MIN}) {
            make("receive", drop, 5);
            equations++;
            due(equations, "equations");
            due(equations, "rank");
        }
    }

    @Sentence("Promise 10: Lets the receiver take a drop with a given value, which may be wrong.")
    void receiveTakesWrongValues() {
        make("start", 2, 0);
        make("setBlock", 0, 8);
        due(1, "receive", dropOf(0), 9);
        due(9, "recovered", 0);
        due(8, "blockAt", 0);
        // The sender's own value contradicts the wrong one by now.
        dueUnchanged(STATE, "receive", dropOf(0), 8);
        due(1, "receive", dropOf(0, 1), 100);
        due(100 ^ 9, "recovered", 1);
    }

    @Sentence("Promise 10: `value`: any number")
    void receiveTakesAnyValue() {
        for (int value : new int[] {0, -1, MAX, MIN, 1}) {
            make("start", 2, 0);
            due(1, "receive", dropOf(1), value);
            due(value, "recovered", 1);
            due(1, "receive", dropOf(0, 1), -1);
            due(~value, "recovered", 0);
        }
    }

    @Sentence("Promise 10: Returns the number of blocks that are peeled by it.")
    void receiveCountsWhatItPeels() {
        make("start", 32, 6);
        for (int block = 0; block < 31; block++) {
            due(0, "receive", dropOf(block, block + 1), 1);
        }
        // One block opens the whole chain, and with it all parity equations.
        due(38, "receive", dropOf(31), 1);
        due(38, "peeled");
        due(0, "receive", dropOf(0), 0);
        make("start", 3, 0);
        due(1, "receive", dropOf(2), 6);
        due(0, "receive", dropOf(2), 6);
        due(0, "receive", dropOf(0, 1, 2), 7);
        due(2, "receive", dropOf(0), 0);
    }

    @Sentence("Terms: At most 120 drops are taken in a transfer.")
    void receiveTakes120Drops() {
        make("start", 2, 0);
        takePairs(119, 3);
        due(119, "equations");
        due(0, "receive", dropOf(0, 1), 3);
        due(120, "equations");
        // Neither a drop that repeats nor one that helps nor one that contradicts is taken.
        dueUnchanged(STATE, "receive", dropOf(0, 1), 3);
        dueUnchanged(STATE, "receive", dropOf(0), 3);
        dueUnchanged(STATE, "receive", dropOf(0, 1), 4);
        due(1, "rank");
    }

    @Sentence("Promise 10: Throws `IllegalStateException` if 120 drops have been taken already")
    void the120thDropStillPeels() {
        make("start", 2, 0);
        takePairs(119, 3);
        due(2, "receive", dropOf(1), 8);
        due(8 ^ 3, "recovered", 0);
        due(119, "peeledBy", 1);
        due(0, "peeledBy", 0);
        dueUnchanged(STATE, "receive", dropOf(1), 8);
        dueUnchanged(0, "receiveAll", dropOf(1), 1);
    }

    @Sentence("Terms: Every drop that is taken adds an equation")
    void refusedDropsDoNotCount() {
        make("start", 2, 0);
        takePairs(1, 3);
        for (int refused = 0; refused < 130; refused++) {
            due(STATE, "receive", dropOf(0, 1), 2);
        }
        due(1, "equations");
        takePairs(119, 3);
        due(120, "equations");
        due(STATE, "receive", dropOf(0, 1), 3);
    }

    @Sentence("Promise 12: Returns P and the number of drops taken, together.")
    void parityEquationsAreNoDrops() {
        due(0, "equations");
        make("start", 32, 6);
        due(6, "equations");
        takePairs(119, 3);
        due(125, "equations");
        takePairs(1, 3);
        due(126, "equations");
        dueUnchanged(STATE, "receive", dropOf(0, 1), 3);
    }

    @Sentence("Promise 2: All source blocks have the value 0, and the receiver has no drop.")
    void aNewTransferTakes120DropsAgain() {
        make("start", 2, 1);
        takePairs(120, 3);
        make("start", 2, 0);
        due(0, "equations");
        takePairs(120, 4);
        due(120, "equations");
        dueUnchanged(STATE, "receive", dropOf(0, 1), 4);
    }

    @Sentence("Terms: An equation contradicts others if no values of the blocks satisfy all of them together; such a drop is refused.")
    void contradictionsOfOneDropAndOfMany() {
        make("start", 4, 0);
        take(3, 0, 1);
        dueUnchanged(STATE, "receive", dropOf(0, 1), 2);
        // One bit that is wrong will do, the first or the last.
        dueUnchanged(STATE, "receive", dropOf(0, 1), 3 ^ MIN);
        take(6, 1, 2);
        take(12, 2, 3);
        dueUnchanged(STATE, "receive", dropOf(0, 3), 3 ^ 6 ^ 12 ^ 1);
        dueUnchanged(STATE, "receive", dropOf(0, 1, 2, 3), 3 ^ 12 ^ 64);
        due(0, "receive", dropOf(0, 3), 3 ^ 6 ^ 12);
        due(0, "receive", dropOf(0, 1, 2, 3), 3 ^ 12);
        due(4, "receive", dropOf(3), 1000);
        dueUnchanged(STATE, "receive", dropOf(0), 1000);
        dueUnchanged(STATE, "receive", dropOf(0, 1, 2), 0);
        due(0, "receive", dropOf(0), 1000 ^ 3 ^ 6 ^ 12);
    }

    @Sentence("Terms: equation j says that the exclusive or of parity block S + j and the source blocks that it covers is 0.")
    void dropsThatContradictTheParityEquations() {
        make("start", 3, 3);
        // Block 3 covers 0 and 2, block 4 covers 1 and 2, block 5 covers nothing.
        dueUnchanged(STATE, "receive", dropOf(5), 1);
        dueUnchanged(STATE, "receive", dropOf(0, 2, 3), 1);
        dueUnchanged(STATE, "receive", dropOf(1, 2, 4), -1);
        dueUnchanged(STATE, "receive", dropOf(0, 1, 3, 4), 2);
        due(0, "receive", dropOf(5), 0);
        due(0, "receive", dropOf(0, 2, 3), 0);
        due(0, "receive", dropOf(1, 2, 4), 0);
        due(0, "receive", dropOf(0, 1, 3, 4), 0);
        due(3, "rank");
        due(7, "equations");
    }

    @Sentence("Terms: A method that throws an exception changes nothing.")
    void refusedDropsLeaveNoEquation() {
        startMidway();
        dueUnchanged(STATE, "receive", dropOf(0, 1), 2);
        dueUnchanged(STATE, "receive", dropOf(7), 71);
        dueUnchanged(STATE, "receive", dropOf(3, 4), 91);
        dueUnchanged(STATE, "receive", dropOf(0), -1);
        due(8, "equations");
    }

    @Sentence("Promise 11: `count`: the number of drops, 1 to 40")
    void receiveAllTakesFrom1To40Drops() {
        startMidway();
        for (int count : new int[] {0, 41, -1, 120, MIN, MAX}) {
            dueUnchanged(ARGUMENT, "receiveAll", 0, count);
        }
        make("start", 8, 3);
        due(1, "receiveAll", 0, 1);
        due(4, "equations");
        due(40, "receiveAll", 1, 40);
        due(44, "equations");
    }

    @Sentence("Promise 11: Throws `IllegalArgumentException` if count is out of range")
    void receiveAllLooksAtTheCountFirst() {
        takeAll120();
        dueUnchanged(ARGUMENT, "receiveAll", 0, 0);
        dueUnchanged(ARGUMENT, "receiveAll", 0, 41);
        dueUnchanged(0, "receiveAll", 0, 1);
        dueUnchanged(0, "receiveAll", 0, 40);
    }

    private void takeAll120() {
        make("start", 4, 2);
        make("receiveAll", 0, 40);
        make("receiveAll", 40, 40);
        make("receiveAll", 80, 40);
    }

    @Sentence("Promise 11: `first`: any number; the numbers wrap around as ints")
    void receiveAllWrapsAround() {
        for (int first : new int[] {MAX, MAX - 1, MAX - 38, MAX - 39, MAX - 40, MIN, -1, -20, -39, -40, 0}) {
            dueSameDropByDrop(first, 40);
        }
        dueSameDropByDrop(MAX, 2);
        dueSameDropByDrop(MAX, 1);
        dueSameDropByDrop(MIN, 1);
    }

    private void dueSameDropByDrop(int first, int count) {
        beginWithValues();
        for (int number = 0; number < count; number++) {
            make("receive", first + number, model.valueOf(first + number));
        }
        List<Call> dropByDrop = callsMade();
        beginWithValues();
        due(count, "receiveAll", first, count);
        dueSameStateAs(dropByDrop);
    }

    private void beginWithValues() {
        beginAnew();
        make("start", 32, 6);
        for (int block = 0; block < 32; block++) {
            make("setBlock", block, 1 << block);
        }
    }

    @Sentence("Promise 11: It stops ahead of a drop that receive() would refuse.")
    void receiveAllStopsAheadOfAContradiction() {
        onlyDegree(1);
        make("start", 3, 0);
        int first = firstOfSingles(0, 0, 1, 2);
        take(4, 1);
        // The sender has 0 for block 1: its third drop contradicts, and the fourth is not reached.
        due(2, "receiveAll", first, 4);
        due(3, "equations");
        due(true, "isDetermined", 0);
        due(false, "isDetermined", 2);
        dueUnchanged(0, "receiveAll", first + 2, 40);
        dueUnchanged(0, "receiveAll", first + 2, 1);
        due(1, "receiveAll", first + 1, 2);
        due(1, "receiveAll", first + 3, 1);
        due(5, "equations");
    }

    @Sentence("Promise 11: It stops ahead of a drop that receive() would refuse.")
    void receiveAllStopsAt120Drops() {
        make("start", 4, 2);
        due(40, "receiveAll", 0, 40);
        due(40, "receiveAll", 40, 40);
        due(1, "receiveAll", 80, 1);
        due(39, "receiveAll", 81, 40);
        due(122, "equations");
        dueUnchanged(0, "receiveAll", 120, 40);
        make("start", 4, 2);
        due(40, "receiveAll", 0, 40);
    }

    @Sentence("Promise 11: Returns the number of drops taken.")
    void receiveAllCountsDropsThatDoNotHelpToo() {
        due(40, "receiveAll", 0, 40);
        due(1, "peeled");
        due(1, "rank");
        due(40, "equations");
        due(40, "receiveAll", 0, 40);
        due(40, "receiveAll", 0, 40);
        due(0, "receiveAll", 0, 40);
    }

    @Sentence("Promise 11: Lets the receiver take drops as the sender makes them")
    void receiveAllTakesTheSendersValues() {
        make("start", 5, 2);
        for (int block = 0; block < 5; block++) {
            make("setBlock", block, MIN + block);
        }
        due(40, "receiveAll", 0, 40);
        for (int block = 0; block < 7; block++) {
            due(model.blockAt(block), "recovered", block);
        }
        // What the sender makes later on is not what the receiver has.
        make("setBlock", 0, 1);
        due(MIN, "recovered", 0);
        due(0, "receiveAll", dropOf(0), 1);
    }
}
