/** The edges that promises 20 to 23 name: what drops would do, and what is missing. */
public final class ForecastEdgesTest extends Trials {
    public static void main(String[] args) {
        new ForecastEdgesTest().runAll();
    }

    @Sentence("Promise 20: Tells whether a drop would help: the rank would be greater with its equation.")
    void everyDropHelpsAtFirstAndNoneAtLast() {
        for (int drop : new int[] {0, 1, -1, MAX, MIN}) {
            dueUnchanged(true, "wouldHelp", drop);
        }
        make("receive", 0, 0);
        for (int drop : new int[] {0, 1, -1, MAX, MIN}) {
            dueUnchanged(false, "wouldHelp", drop);
        }
        make("start", 4, 0);
        take(1, 0, 1);
        take(2, 1, 2);
        due(false, "wouldHelp", dropOf(0, 1));
        due(false, "wouldHelp", dropOf(0, 2));
        due(true, "wouldHelp", dropOf(0));
        due(true, "wouldHelp", dropOf(0, 1, 2));
        due(true, "wouldHelp", dropOf(0, 1, 3));
        take(4, 3);
        due(false, "wouldHelp", dropOf(0, 1, 3));
    }

    @Sentence("Promise 20: `drop`: any number")
    void wouldHelpTakesAnyNumber() {
        startWithBlocksOf(-1, MAX);
        due(false, "wouldHelp", -1);
        due(false, "wouldHelp", MAX);
        due(true, "wouldHelp", 0);
        due(true, "wouldHelp", MIN);
    }

    /** The largest transfer without parity blocks; the receiver has two drops and no more. */
    private void startWithBlocksOf(int drop, int other) {
        make("start", 32, 0);
        make("receive", drop, 0);
        make("receive", other, 0);
    }

    @Sentence("Promise 20: Tells whether a drop would help: the rank would be greater with its equation.")
    void parityEquationsCountForHelp() {
        make("start", 3, 3);
        due(false, "wouldHelp", dropOf(5));
        due(false, "wouldHelp", dropOf(0, 2, 3));
        due(false, "wouldHelp", dropOf(0, 2, 3, 5));
        due(true, "wouldHelp", dropOf(0, 2));
        due(true, "wouldHelp", dropOf(3, 5));
    }

    @Sentence("Promise 20: Tells whether a drop would help: the rank would be greater with its equation.")
    void helpDoesNotAskForValuesOrDropsLeft() {
        make("start", 2, 0);
        takePairs(120, 9);
        // The sender's value for this drop, 0, contradicts; it does not help in any case.
        due(false, "wouldHelp", dropOf(0, 1));
        dueUnchanged(true, "wouldHelp", dropOf(0));
        due(STATE, "receive", dropOf(0), 0);
    }

    @Sentence("Promise 21: Returns how many blocks would be determined in addition if a drop were taken with a value that contradicts nothing.")
    void wouldDetermineFromNothingToAllBlocks() {
        make("start", 4, 0);
        due(0, "wouldDetermine", dropOf(0, 1));
        due(1, "wouldDetermine", dropOf(3));
        take(1, 0, 1);
        take(2, 1, 2);
        take(3, 2, 3);
        due(0, "wouldDetermine", dropOf(0, 3));
        due(0, "wouldDetermine", dropOf(0, 1, 2, 3));
        dueUnchanged(4, "wouldDetermine", dropOf(2));
        dueUnchanged(4, "wouldDetermine", dropOf(1, 2, 3));
        take(9, 2);
        for (int drop : new int[] {0, 1, -1, MAX, MIN}) {
            due(0, "wouldDetermine", drop);
        }
    }

    @Sentence("Promise 21: Returns how many blocks would be determined in addition if a drop were taken with a value that contradicts nothing.")
    void wouldDetermineLeavesOutWhatIsDetermined() {
        startMidway();
        due(0, "wouldDetermine", dropOf(0));
        due(0, "wouldDetermine", dropOf(7));
        due(2, "wouldDetermine", dropOf(3));
        // Blocks 0 and 7 are known, so these are drops of 4 and of 3 and 4 alone.
        due(2, "wouldDetermine", dropOf(0, 4));
        due(0, "wouldDetermine", dropOf(3, 4));
        due(0, "wouldDetermine", dropOf(3, 4, 7));
        due(1, "wouldDetermine", dropOf(3, 4, 5));
        // A drop that helps determines nothing if it only ties open blocks together.
        due(true, "wouldHelp", dropOf(5, 8));
        due(0, "wouldDetermine", dropOf(5, 8));
        // Parity block 9 covers 1, 2, 5 and 6: with 5 it leaves 6 alone.
        due(1, "wouldDetermine", dropOf(5, 9));
    }

    @Sentence("Promise 21: `drop`: any number")
    void wouldDetermineTakesAnyNumber() {
        make("start", 2, 0);
        onlyDegree(1);
        for (int drop : new int[] {0, -1, MAX, MIN}) {
            due(1, "wouldDetermine", drop);
        }
        take(0, 1);
        for (int drop : new int[] {0, -1, MAX, MIN}) {
            due(1 - model.blocksOf(drop).get(0), "wouldDetermine", drop);
        }
    }

    @Sentence("Promise 21: Whether 120 drops have been taken does not matter.")
    void wouldDetermineAfter120Drops() {
        make("start", 2, 0);
        takePairs(120, 9);
        dueUnchanged(STATE, "receive", dropOf(1), 1);
        dueUnchanged(2, "wouldDetermine", dropOf(1));
        due(0, "wouldDetermine", dropOf(0, 1));
    }

    @Sentence("Promise 22: `first`: any number")
    void nextHelpfulTakesAnyNumber() {
        startWithBlocksOf(-1, MAX);
        due(1, "nextHelpful", -1);
        due(1, "nextHelpful", MAX);
        due(0, "nextHelpful", MIN);
        due(0, "nextHelpful", 0);
    }

    @Sentence("Promise 22: Returns the smallest k from 0 to 499 for which the drop first + k would help")
    void nextHelpfulSearchesFrom0To499() {
        startWherePairsDoNotHelp();
        make("setWeight", 12, 1);
        make("setWeight", 2, 1000);
        int helpful = helpfulAfterGap(0, 500);
        dueUnchanged(0, "nextHelpful", helpful);
        due(1, "nextHelpful", helpful - 1);
        due(498, "nextHelpful", helpful - 498);
        dueUnchanged(499, "nextHelpful", helpful - 499);
        dueUnchanged(NONE, "nextHelpful", helpful - 500);
    }

    /** Of 3 blocks, all pairs are known: only drops of one or of three blocks help. */
    private void startWherePairsDoNotHelp() {
        make("start", 3, 0);
        take(0, 0, 1);
        take(0, 1, 2);
        onlyDegree(2);
    }

    @Sentence("Promise 22: Returns the smallest k from 0 to 499 for which the drop first + k would help")
    void nextHelpfulTakesTheSmallest() {
        make("start", 3, 0);
        onlyDegree(1);
        take(0, 1);
        int first = firstOfSingles(1, 1, 2, 0);
        due(2, "nextHelpful", first);
        take(0, 2);
        due(3, "nextHelpful", first);
        due(0, "nextHelpful", first + 3);
    }

    @Sentence("Promise 22: where the number wraps around as an int")
    void nextHelpfulWrapsAround() {
        startWherePairsDoNotHelp();
        make("setWeight", 1, 1);
        make("setWeight", 2, 992);
        // With these weights no drop helps from MAX - 499 on until some place behind MIN.
        int helpful = helpfulAfterGap(MAX - 499, 499);
        checks.same("a drop behind the end of the ints", true, helpful < MIN + 400);
        due(0, "nextHelpful", helpful);
        due(helpful - MIN, "nextHelpful", MIN);
        due(helpful - MIN + 1, "nextHelpful", MAX);
        dueUnchanged(499, "nextHelpful", helpful - 499);
        due(NONE, "nextHelpful", helpful - 500);
    }

    @Sentence("Promise 22: NONE if there is none.")
    void nextHelpfulIsNoneWithFullRank() {
        for (int first : new int[] {0, -1, MAX, MIN}) {
            due(0, "nextHelpful", first);
        }
        make("receive", 5, 5);
        for (int first : new int[] {0, -1, MAX, MIN, MAX - 499}) {
            dueUnchanged(NONE, "nextHelpful", first);
        }
        // None, too, if no drop of these weights can help.
        startWherePairsDoNotHelp();
        due(1, "missing");
        dueUnchanged(NONE, "nextHelpful", 0);
        dueUnchanged(NONE, "nextHelpful", MAX);
    }

    @Sentence("Promise 22: Finds the next drop that would help.")
    void nextHelpfulAfter120Drops() {
        make("start", 2, 0);
        takePairs(120, 9);
        onlyDegree(1);
        due(0, "nextHelpful", 0);
        onlyDegree(2);
        due(NONE, "nextHelpful", 0);
    }

    @Sentence("Promise 23: Returns the smallest number of further drops with which all blocks could be determined.")
    void missingDropsAreEnough() {
        make("start", 10, 3);
        onlyDegree(3);
        make("setWeight", 1, 1);
        for (int left = 10; left > 0; left--) {
            due(left, "missing");
            due(false, "isDetermined", openBlock());
            make("receive", helpfulAfterGap(left * 1000, 0), left);
        }
        due(0, "missing");
        due(13, "determined");
    }

    private int openBlock() {
        int block = 0;
        while (model.isDetermined(block)) {
            block++;
        }
        return block;
    }

    @Sentence("Promise 23: Returns B less the rank.")
    void missingFromAllBlocksToNone() {
        due(1, "missing");
        make("start", 32, 0);
        due(32, "missing");
        make("start", 32, 6);
        due(32, "missing");
        make("start", 1, 6);
        due(1, "missing");
        make("receive", 0, 0);
        due(0, "missing");
        make("receive", 0, 0);
        due(0, "missing");
        make("start", 2, 0);
        takePairs(120, 9);
        // No drop can be taken any more, and still one is missing.
        due(1, "missing");
    }
}
