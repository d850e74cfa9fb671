/** Every call that can be refused, in every kind of state; and questions, which change nothing either. */
public final class RefusalTest extends Trials {
    public static void main(String[] args) {
        new RefusalTest().runAll();
    }

    @Sentence("Terms: A method that throws an exception changes nothing.")
    void refusedInANewCode() {
        refuseAll();
    }

    @Sentence("Terms: A method that throws an exception changes nothing.")
    void refusedMidway() {
        startMidway();
        refuseAll();
        refuseContradictions();
    }

    @Sentence("Terms: A method that throws an exception changes nothing.")
    void refusedAtTheStartOfTheLargestTransfer() {
        make("start", 32, 6);
        refuseAll();
    }

    @Sentence("Terms: A method that throws an exception changes nothing.")
    void refusedWithAllBlocksDetermined() {
        make("start", 6, 2);
        make("receiveAll", 0, 40);
        refuseAll();
        refuseContradictions();
    }

    @Sentence("Terms: A method that throws an exception changes nothing.")
    void refusedAfter120Drops() {
        make("start", 3, 2);
        takePairs(120, 7);
        refuseAll();
        for (int drop = 0; drop < 5; drop++) {
            dueUnchanged(STATE, "receive", drop, 0);
            dueUnchanged(STATE, "receive", drop, 7);
            dueUnchanged(0, "receiveAll", drop, 40);
        }
    }

    @Sentence("Terms: A method that throws an exception changes nothing.")
    void refusedWithOneWeight() {
        startMidway();
        onlyDegree(12, 1000);
        refuseAll();
        dueUnchanged(STATE, "setWeight", 12, 0);
        dueUnchanged(ARGUMENT, "setWeight", 11, -1000);
    }

    @Sentence("Terms: Questions about the receiver are answered from the equations that it has at the time of the call.")
    void questionsChangeNothing() {
        startMidway();
        for (int drop : new int[] {0, 1, -1, MAX, MIN}) {
            dueUnchanged(model.degree(drop), "degree", drop);
            dueUnchanged(model.blockOf(drop, 0), "blockOf", drop, 0);
            dueUnchanged(model.valueOf(drop), "valueOf", drop);
            dueUnchanged(model.wouldHelp(drop), "wouldHelp", drop);
            dueUnchanged(model.wouldDetermine(drop), "wouldDetermine", drop);
            dueUnchanged(model.nextHelpful(drop), "nextHelpful", drop);
        }
        dueUnchanged(11, "blocks");
        dueUnchanged(8, "equations");
        dueUnchanged(8, "rank");
        dueUnchanged(1, "peeled");
        dueUnchanged(4, "determined");
        dueUnchanged(3, "missing");
        dueUnchanged(0x01010101, "blockAt", 8);
        dueUnchanged(7, "peeledAt", 0);
        dueUnchanged(NONE, "peeledBy", 8);
        dueUnchanged(true, "isDetermined", 2);
        dueUnchanged(6, "recovered", 2);
    }

    private void refuseAll() {
        refuseTransfersAndWeights();
        int blocks = model.blocks();
        int sources = blocks - (model.equations() - model.dropsTaken());
        for (int block : new int[] {MIN, -1, blocks, blocks + 1, MAX}) {
            dueUnchanged(INDEX, "blockAt", block);
            dueUnchanged(INDEX, "peeledBy", block);
            dueUnchanged(INDEX, "isDetermined", block);
            dueUnchanged(INDEX, "recovered", block);
            dueUnchanged(INDEX, "setBlock", block, 5);
        }
        for (int block = sources; block < blocks; block++) {
            dueUnchanged(INDEX, "setBlock", block, 5);
        }
        for (int block = 0; block < blocks; block++) {
            if (!model.isDetermined(block)) {
                dueUnchanged(STATE, "recovered", block);
            }
        }
        for (int place : new int[] {MIN, -1, model.peeled(), model.peeled() + 1, MAX}) {
            dueUnchanged(INDEX, "peeledAt", place);
        }
        for (int place : new int[] {MIN, -1, model.degree(5), 12, MAX}) {
            dueUnchanged(INDEX, "blockOf", 5, place);
        }
    }

    private void refuseTransfersAndWeights() {
        for (int outside : new int[] {MIN, -1, 33, MAX}) {
            dueUnchanged(ARGUMENT, "start", outside, 1);
            dueUnchanged(ARGUMENT, "start", 2, outside);
            dueUnchanged(ARGUMENT, "setWeight", outside, 2);
        }
        dueUnchanged(ARGUMENT, "start", 0, 1);
        dueUnchanged(ARGUMENT, "start", 2, 7);
        dueUnchanged(ARGUMENT, "setWeight", 0, 2);
        dueUnchanged(ARGUMENT, "setWeight", 13, 2);
        for (int outside : new int[] {MIN, -1, 1001, MAX}) {
            dueUnchanged(ARGUMENT, "setWeight", 3, outside);
        }
        for (int outside : new int[] {MIN, -1, 0, 41, MAX}) {
            dueUnchanged(ARGUMENT, "receiveAll", 0, outside);
        }
    }

    /** Drops that do not help fit with one value alone. */
    private void refuseContradictions() {
        int refused = 0;
        for (int drop = 0; drop < 200 && refused < 20; drop++) {
            if (!model.wouldHelp(drop)) {
                int value = model.contradicts(drop, 0) ? 0 : 1;
                dueUnchanged(STATE, "receive", drop, value);
                refused++;
            }
        }
        checks.same("contradictions were found", true, refused > 4);
    }
}
