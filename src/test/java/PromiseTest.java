/**
 * The promises with ordinary inputs; the edges that they name are tried by the tests whose names end
 * in EdgesTest and by RefusalTest.
 */
public final class PromiseTest extends Trials {
    public static void main(String[] args) {
        new PromiseTest().runAll();
    }

    @Sentence("Promise 2: start")
    void promise2Start() {
        onlyDegree(1);
        make("start", 5, 2);
        for (int block = 0; block < 5; block++) {
            make("setBlock", block, 100 + block);
        }
        due(40, "receiveAll", 0, 40);
        due(7, "peeled");
        due(0, "start", 6, 3);
        due(0, "peeled");
        due(3, "equations");
        due(3, "rank");
        for (int block = 0; block < 9; block++) {
            due(0, "blockAt", block);
            due(NONE, "peeledBy", block);
            due(STATE, "recovered", block);
        }
        // Weights stay.
        due(0, "setWeight", 2, 0);
        due(1, "setWeight", 1, 1);
    }

    @Sentence("Promise 3: setWeight")
    void promise3SetWeight() {
        make("start", 20, 0);
        due(2, "degree", 0);
        due(20, "setWeight", 2, 0);
        make("degree", 0);
        due(1, "setWeight", 9, 500);
        due(9, "degree", 0);
        due(0, "setWeight", 2, 20);
        due(500, "setWeight", 9, 1);
        due(2, "degree", 0);
    }

    @Sentence("Promise 4: setBlock")
    void promise4SetBlock() {
        make("start", 3, 2);
        due(0, "setBlock", 0, MIN);
        due(MIN, "setBlock", 0, MAX);
        due(0, "setBlock", 2, -1);
        due(-1, "setBlock", 2, -1);
        onlyDegree(1);
        due(1, "receive", dropOf(0), MAX);
        due(MAX, "setBlock", 0, 17);
        due(17, "blockAt", 0);
        due(MAX, "recovered", 0);
        due(STATE, "receive", dropOf(0), 17);
    }

    @Sentence("Promise 6: blockAt")
    void promise6BlockAt() {
        make("start", 32, 6);
        for (int block = 0; block < 32; block++) {
            make("setBlock", block, 1 << block);
        }
        for (int block = 0; block < 32; block++) {
            due(1 << block, "blockAt", block);
        }
        // Source i is covered by parity j if bit j of i + 1 is 1.
        due(0x55555555, "blockAt", 32);
        due(0x66666666, "blockAt", 33);
        due(0x78787878, "blockAt", 34);
        due(0x7F807F80, "blockAt", 35);
        due(0x7FFF8000, "blockAt", 36);
        due(0x80000000, "blockAt", 37);
        make("setBlock", 31, 5);
        due(5, "blockAt", 37);
        make("start", 3, 6);
        make("setBlock", 0, 1);
        make("setBlock", 1, 2);
        make("setBlock", 2, 4);
        due(5, "blockAt", 3);
        due(6, "blockAt", 4);
        due(0, "blockAt", 5);
        due(0, "blockAt", 8);
    }

    @Sentence("Promise 7: degree")
    void promise7Degree() {
        make("start", 32, 6);
        due(2, "degree", 0);
        due(4, "degree", 1);
        due(9, "degree", -1);
        due(7, "degree", MAX);
        due(2, "degree", MIN);
        due(12, "degree", 274);
        for (int degree = 1; degree <= 12; degree++) {
            onlyDegree(degree);
            due(degree, "degree", 3 - degree);
        }
        make("start", 1, 3);
        due(4, "degree", 77);
    }

    @Sentence("Promise 8: blockOf")
    void promise8BlockOf() {
        make("start", 32, 6);
        dueBlocks(0, 12, 13);
        dueBlocks(1, 1, 6, 32, 22);
        dueBlocks(-1, 7, 19, 28, 12, 29, 32, 4, 35, 10);
        dueBlocks(MAX, 4, 0, 17, 36, 7, 31, 37);
        dueBlocks(MIN, 16, 5);
        dueBlocks(274, 29, 32, 8, 31, 16, 21, 34, 9, 36, 12, 35, 7);
        make("start", 5, 2);
        dueBlocks(274, 4, 1, 6, 0, 5, 2, 3);
        make("start", 4, 1);
        dueBlocks(-1, 3, 2, 4, 0, 1);
        dueBlocks(0, 4, 2);
    }

    @Sentence("Promise 9: valueOf")
    void promise9ValueOf() {
        make("start", 4, 1);
        due(0, "valueOf", -1);
        for (int block = 0; block < 4; block++) {
            make("setBlock", block, 1 << 8 * block);
        }
        // Drop 0 has the blocks 4 and 2; block 4 covers 0 and 2.
        due(0x00000001, "valueOf", 0);
        // Drop -1 has all blocks.
        due(0x01000100, "valueOf", -1);
        // Drop 7 has the blocks 1 and 2.
        due(0x00010100, "valueOf", 7);
        make("setBlock", 1, -1);
        due(0xFFFEFFFF, "valueOf", 7);
    }

    @Sentence("Promise 10: receive")
    void promise10Receive() {
        make("start", 4, 0);
        due(0, "receive", dropOf(0, 1), 3);
        due(0, "receive", dropOf(1, 2), 6);
        due(3, "receive", dropOf(1), 100);
        due(100 ^ 3, "recovered", 0);
        due(100 ^ 6, "recovered", 2);
        due(3, "equations");
        dueUnchanged(STATE, "receive", dropOf(1), 101);
        dueUnchanged(STATE, "receive", dropOf(0, 2), 4);
        due(0, "receive", dropOf(0, 2), 3 ^ 6);
        due(4, "equations");
        due(1, "receive", dropOf(0, 1, 2, 3), MIN);
        due(MIN ^ 100 ^ 3 ^ 6, "recovered", 3);
        wrongValuesAreTaken();
    }

    private void wrongValuesAreTaken() {
        make("start", 2, 1);
        make("setBlock", 0, 8);
        int pair = dropOf(0, 1);
        due(0, "receive", pair, 77);
        dueUnchanged(STATE, "receive", pair, 8);
        due(0, "receive", pair, 77);
        // The parity block 2 covers source block 0.
        due(3, "receive", dropOf(2), 5);
        due(5, "recovered", 0);
        due(72, "recovered", 1);
        due(8, "blockAt", 0);
    }

    @Sentence("Promise 11: receiveAll")
    void promise11ReceiveAll() {
        make("start", 8, 2);
        for (int block = 0; block < 8; block++) {
            make("setBlock", block, block * 1001);
        }
        due(1, "receiveAll", 9, 1);
        due(3, "equations");
        // The numbers wrap around.
        due(5, "receiveAll", MAX - 1, 5);
        due(8, "equations");
        due(40, "receiveAll", 0, 40);
        for (int block = 0; block < 8; block++) {
            due(block * 1001, "recovered", block);
        }
    }

    @Sentence("Promise 12: equations")
    void promise12Equations() {
        due(0, "equations");
        make("start", 20, 6);
        due(6, "equations");
        make("receive", 4, 4);
        due(7, "equations");
        make("receive", 4, 4);
        due(8, "equations");
        due(STATE, "receive", 4, 5);
        due(8, "equations");
        make("receiveAll", 5, 12);
        due(20, "equations");
        make("start", 20, 4);
        due(4, "equations");
    }

    @Sentence("Promise 13: rank")
    void promise13Rank() {
        make("start", 5, 1);
        due(1, "rank");
        take(0, 0, 1);
        take(0, 1, 3);
        due(3, "rank");
        take(0, 0, 3);
        due(3, "rank");
        // Parity block 5 covers 0, 2 and 4.
        take(0, 2, 4);
        take(0, 0, 5);
        due(4, "rank");
        take(0, 5);
        due(5, "rank");
        take(0, 4);
        due(6, "rank");
        due(8, "equations");
    }

    @Sentence("Promises 14 to 16: peeled, peeledAt and peeledBy")
    void promises14To16Peeling() {
        make("start", 6, 0);
        take(1, 2, 3);
        take(2, 3, 4);
        take(4, 2, 5);
        due(0, "peeled");
        take(8, 2);
        // Block 2 opens equation 0 first; that opens 1 ahead of 2.
        duePeels(new int[] {2, 3, 4, 5}, new int[] {3, 0, 1, 2});
        due(NONE, "peeledBy", 0);
        take(16, 0);
        take(16, 0);
        duePeels(new int[] {2, 3, 4, 5, 0}, new int[] {3, 0, 1, 2, 4});
        peelingStalls();
        peelingWithParities();
    }

    private void peelingStalls() {
        make("start", 3, 0);
        // The three pairs and the triple determine all, but no equation has one block.
        take(0, 0, 1);
        take(0, 1, 2);
        take(7, 0, 1, 2);
        due(0, "peeled");
        due(3, "determined");
        due(NONE, "peeledBy", 1);
        // One block peels the others, always by the lowest equation that will do.
        take(7, 0);
        duePeels(new int[] {0, 1, 2}, new int[] {3, 0, 1});
    }

    private void peelingWithParities() {
        make("start", 2, 6);
        duePeels(new int[] {4, 5, 6, 7}, new int[] {2, 3, 4, 5});
        take(9, 3);
        duePeels(new int[] {4, 5, 6, 7, 3, 1}, new int[] {2, 3, 4, 5, 6, 1});
        due(9, "recovered", 1);
    }

    @Sentence("Promises 17 to 19: determined, isDetermined and recovered")
    void promises17To19Determined() {
        make("start", 5, 0);
        take(1, 0, 1);
        take(2, 1, 2);
        due(0, "determined");
        take(99, 0, 1, 2);
        // Peeling stalls, and elimination goes on.
        due(0, "peeled");
        due(3, "determined");
        due(99 ^ 2, "recovered", 0);
        due(99 ^ 2 ^ 1, "recovered", 1);
        due(99 ^ 1, "recovered", 2);
        take(5, 3, 4);
        due(3, "determined");
        due(true, "isDetermined", 2);
        due(false, "isDetermined", 3);
        due(false, "isDetermined", 4);
        dueUnchanged(STATE, "recovered", 3);
        take(MIN, 4);
        due(5, "determined");
        due(5 ^ MIN, "recovered", 3);
        parityBlocksAreDetermined();
    }

    private void parityBlocksAreDetermined() {
        make("start", 2, 2);
        due(0, "determined");
        // Parity block 2 covers 0, parity block 3 covers 1.
        take(12, 2, 3);
        due(0, "determined");
        take(5, 0);
        due(4, "determined");
        due(5, "recovered", 2);
        due(9, "recovered", 3);
        due(9, "recovered", 1);
    }

    @Sentence("Promises 20 to 22: wouldHelp, wouldDetermine and nextHelpful")
    void promises20To22Forecasts() {
        make("start", 4, 0);
        take(1, 0, 1);
        take(2, 1, 2);
        dueForecast(false, 0, 0, 2);
        dueForecast(false, 0, 0, 1);
        dueForecast(true, 3, 1);
        dueForecast(true, 3, 0, 1, 2);
        dueForecast(true, 0, 0, 3);
        dueForecast(true, 1, 3);
        // Blocks 0 and 2 are the same but for their values: so block 3 is found.
        dueForecast(true, 1, 0, 2, 3);
        dueForecast(true, 0, 0, 1, 2, 3);
        take(3, 0, 3);
        dueForecast(true, 4, 2);
        dueForecast(false, 0, 0, 1, 2, 3);
        dueUnchanged(true, "wouldHelp", dropOf(2));
        dueUnchanged(4, "wouldDetermine", dropOf(2));
        take(4, 2);
        dueForecast(false, 0, 3);
    }

    @Sentence("Promise 22: nextHelpful")
    void promise22NextHelpful() {
        onlyDegree(1);
        make("start", 32, 0);
        due(0, "nextHelpful", 0);
        for (int block = 0; block < 31; block++) {
            take(0, block);
        }
        int helpful = helpfulAfterGap(0, 10);
        due(0, "nextHelpful", helpful);
        due(1, "nextHelpful", helpful - 1);
        due(10, "nextHelpful", helpful - 10);
        // The numbers wrap around: block 31 is only in drops behind the end of the ints.
        int behindEnd = helpfulAfterGap(MIN, 0) - MIN;
        due(false, "wouldHelp", MAX);
        due(behindEnd + 1, "nextHelpful", MAX);
        take(0, 31);
        due(NONE, "nextHelpful", 0);
        due(NONE, "nextHelpful", helpful);
    }

    @Sentence("Promise 23: missing")
    void promise23Missing() {
        due(1, "missing");
        make("start", 32, 6);
        due(32, "missing");
        make("start", 4, 0);
        due(4, "missing");
        take(1, 0, 1);
        take(1, 1, 0);
        due(3, "missing");
        take(1, 2);
        take(1, 2, 3);
        due(1, "missing");
        take(1, 1);
        due(0, "missing");
    }

    private void dueBlocks(int drop, int... blocks) {
        due(blocks.length, "degree", drop);
        for (int place = 0; place < blocks.length; place++) {
            due(blocks[place], "blockOf", drop, place);
        }
        dueUnchanged(INDEX, "blockOf", drop, blocks.length);
        dueUnchanged(INDEX, "blockOf", drop, -1);
    }

    private void duePeels(int[] order, int[] equations) {
        due(order.length, "peeled");
        for (int place = 0; place < order.length; place++) {
            due(order[place], "peeledAt", place);
            due(equations[place], "peeledBy", order[place]);
        }
        dueUnchanged(INDEX, "peeledAt", order.length);
    }

    private void dueForecast(boolean helps, int determines, int... blocks) {
        int drop = dropOf(blocks);
        due(helps, "wouldHelp", drop);
        due(determines, "wouldDetermine", drop);
        due(helps, "wouldHelp", drop);
    }
}
