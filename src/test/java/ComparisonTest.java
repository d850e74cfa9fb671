import java.util.Random;

/** Long runs of calls with fixed seeds, each answer held against NaiveFountain's. */
public final class ComparisonTest {
    private static final int RUNS = 40;
    private static final String[] NUMBER_QUESTIONS = {"blocks", "equations", "rank", "peeled", "determined", "missing"};
    private static final String[] BLOCK_QUESTIONS = {"blockAt", "peeledAt", "peeledBy", "isDetermined", "recovered"};
    private static final String[] DROP_QUESTIONS = {"degree", "valueOf", "wouldHelp", "wouldDetermine", "nextHelpful"};
    private static final int[] ODD_INTS = {
        0, 1, -1, 2, -2, 12, 13, 32, 33, 37, 38, 39, 40, 41, 63, 64, 119, 120, 1000, 1001,
        Integer.MAX_VALUE, Integer.MIN_VALUE, Integer.MAX_VALUE - 7, Integer.MIN_VALUE + 7
    };

    private final Random random;
    private final FountainCode code = new FountainCode();
    private final NaiveFountain naive = new NaiveFountain();

    private ComparisonTest(int run) {
        random = new Random(run);
    }

    public static void main(String[] args) {
        Checks checks = new Checks();
        for (int run = 0; run < RUNS; run++) {
            new ComparisonTest(run).run("run " + run, checks);
        }
        checks.finish();
    }

    private void run(String name, Checks checks) {
        // In every other run the first transfer lasts, so that it comes to 120 drops.
        boolean oneTransfer = random.nextBoolean();
        for (int number = 1; number <= States.MOST_CALLS; number++) {
            Call call = number == 1 ? startCall() : oneTransfer ? laterCall() : anyCall();
            String what = name + " call " + number + ": " + call;
            String due = call.answerOf(naive);
            checks.same(what, due, call.answerOf(code));
            if (due.startsWith("throws") || number == States.MOST_CALLS) {
                checks.sameLines("the state after " + what + ", ", States.of(naive), States.of(code));
            }
        }
    }

    private Call anyCall() {
        return random.nextInt(40) == 0 ? startCall() : laterCall();
    }

    private Call startCall() {
        return new Call("start", usually(1 + random.nextInt(32)), usually(random.nextInt(7)));
    }

    private Call laterCall() {
        int kind = random.nextInt(100);
        if (kind < 8) {
            return new Call("setWeight", usually(1 + random.nextInt(12)), usually(someWeight()));
        }
        if (kind < 16) {
            return new Call("setBlock", someBlock(), random.nextInt());
        }
        if (kind < 34) {
            int drop = someDrop();
            int value = random.nextInt(5) == 0 ? random.nextInt() : naive.valueOf(drop);
            return new Call("receive", drop, value);
        }
        if (kind < 40) {
            return new Call("receiveAll", someDrop(), usually(1 + random.nextInt(random.nextInt(8) == 0 ? 40 : 3)));
        }
        if (kind < 50) {
            return new Call("blockOf", someDrop(), usually(random.nextInt(12)));
        }
        if (kind < 65) {
            return new Call(oneOf(DROP_QUESTIONS), someDrop());
        }
        if (kind < 85) {
            return new Call(oneOf(BLOCK_QUESTIONS), someBlock());
        }
        return new Call(oneOf(NUMBER_QUESTIONS));
    }

    private int someWeight() {
        return random.nextInt(3) > 0 ? 0 : random.nextInt(1001);
    }

    private int someBlock() {
        return usually(random.nextInt(naive.blocks()));
    }

    private int someDrop() {
        return usually(random.nextInt(400));
    }

    private int usually(int value) {
        return random.nextInt(15) > 0 ? value : ODD_INTS[random.nextInt(ODD_INTS.length)];
    }

    private String oneOf(String[] names) {
        return names[random.nextInt(names.length)];
    }
}
