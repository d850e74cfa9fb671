import java.util.ArrayList;
import java.util.List;
import java.util.Random;
import java.util.concurrent.Callable;

/** Long runs of calls with fixed seeds, each answer held against NaiveFountain's. */
public final class ComparisonTest {
    private static final int RUNS = 150;
    private static final int CALLS = 512;
    private static final int[] ODD_INTS = {
        0, 1, -1, 2, -2, 12, 13, 32, 33, 37, 38, 39, 63, 64, 119, 120, 1000, 1001,
        Integer.MAX_VALUE, Integer.MIN_VALUE, Integer.MAX_VALUE - 7, Integer.MIN_VALUE + 7
    };

    private final Checks checks = new Checks();

    public static void main(String[] args) {
        ComparisonTest test = new ComparisonTest();
        for (int run = 0; run < RUNS; run++) {
            test.compareRun(run);
        }
        test.checks.finish();
    }

    private void compareRun(int run) {
        Random random = new Random(run);
        FountainCode code = new FountainCode();
        NaiveFountain naive = new NaiveFountain();
        List<String> calls = new ArrayList<>();
        for (int call = 0; call < CALLS; call++) {
            String name = oneCall(random, code, naive, calls, run);
            if (name.startsWith("throws")) {
                compareState("run " + run + " call " + call, code, naive);
            }
        }
        compareState("run " + run + " at its end", code, naive);
    }

    /** Makes one call on both; returns the due answer. */
    private String oneCall(Random random, FountainCode code, NaiveFountain naive, List<String> calls, int run) {
        int kind = random.nextInt(100);
        int drop = random.nextInt(10) == 0 ? odd(random) : random.nextInt(400);
        int block = random.nextInt(15) == 0 ? odd(random) : random.nextInt(naive.blocks());
        if (kind < 2) {
            int s = random.nextInt(8) == 0 ? odd(random) : 1 + random.nextInt(32);
            int p = random.nextInt(8) == 0 ? odd(random) : random.nextInt(7);
            return both(run, calls, "start(" + s + ", " + p + ")", () -> naive.start(s, p), () -> code.start(s, p));
        }
        if (kind < 10) {
            int d = random.nextInt(12) == 0 ? odd(random) : 1 + random.nextInt(12);
            int w = random.nextInt(12) == 0 ? odd(random) : random.nextInt(3) > 0 ? 0 : random.nextInt(1001);
            return both(run, calls, "setWeight(" + d + ", " + w + ")", () -> naive.setWeight(d, w), () -> code.setWeight(d, w));
        }
        if (kind < 18) {
            int value = random.nextInt();
            return both(run, calls, "setBlock(" + block + ", " + value + ")", () -> naive.setBlock(block, value), () -> code.setBlock(block, value));
        }
        if (kind < 30) {
            int value = random.nextInt(5) == 0 ? random.nextInt() : naive.valueOf(drop);
            return both(run, calls, "receive(" + drop + ", " + value + ")", () -> naive.receive(drop, value), () -> code.receive(drop, value));
        }
        if (kind < 34) {
            int count = random.nextInt(4) == 0 ? odd(random) : 1 + random.nextInt(random.nextInt(10) == 0 ? 40 : 3);
            return both(run, calls, "receiveAll(" + drop + ", " + count + ")", () -> naive.receiveAll(drop, count), () -> code.receiveAll(drop, count));
        }
        if (kind < 50) {
            return askDrop(random, code, naive, calls, run, drop);
        }
        if (kind < 75) {
            return askBlock(random, code, naive, calls, run, block);
        }
        return askNumber(random, code, naive, calls, run);
    }

    private String askDrop(Random random, FountainCode code, NaiveFountain naive, List<String> calls, int run, int drop) {
        int place = random.nextInt(6) == 0 ? odd(random) : random.nextInt(13);
        switch (random.nextInt(6)) {
            case 0:
                return both(run, calls, "degree(" + drop + ")", () -> naive.degree(drop), () -> code.degree(drop));
            case 1:
                return both(run, calls, "blockOf(" + drop + ", " + place + ")", () -> naive.blockOf(drop, place), () -> code.blockOf(drop, place));
            case 2:
                return both(run, calls, "valueOf(" + drop + ")", () -> naive.valueOf(drop), () -> code.valueOf(drop));
            case 3:
                return both(run, calls, "wouldHelp(" + drop + ")", () -> naive.wouldHelp(drop), () -> code.wouldHelp(drop));
            case 4:
                return both(run, calls, "wouldDetermine(" + drop + ")", () -> naive.wouldDetermine(drop), () -> code.wouldDetermine(drop));
            default:
                return both(run, calls, "nextHelpful(" + drop + ")", () -> naive.nextHelpful(drop), () -> code.nextHelpful(drop));
        }
    }

    private String askBlock(Random random, FountainCode code, NaiveFountain naive, List<String> calls, int run, int block) {
        switch (random.nextInt(5)) {
            case 0:
                return both(run, calls, "blockAt(" + block + ")", () -> naive.blockAt(block), () -> code.blockAt(block));
            case 1:
                return both(run, calls, "peeledAt(" + block + ")", () -> naive.peeledAt(block), () -> code.peeledAt(block));
            case 2:
                return both(run, calls, "peeledBy(" + block + ")", () -> naive.peeledBy(block), () -> code.peeledBy(block));
            case 3:
                return both(run, calls, "isDetermined(" + block + ")", () -> naive.isDetermined(block), () -> code.isDetermined(block));
            default:
                return both(run, calls, "recovered(" + block + ")", () -> naive.recovered(block), () -> code.recovered(block));
        }
    }

    private String askNumber(Random random, FountainCode code, NaiveFountain naive, List<String> calls, int run) {
        switch (random.nextInt(6)) {
            case 0:
                return both(run, calls, "blocks()", naive::blocks, code::blocks);
            case 1:
                return both(run, calls, "equations()", naive::equations, code::equations);
            case 2:
                return both(run, calls, "rank()", naive::rank, code::rank);
            case 3:
                return both(run, calls, "peeled()", naive::peeled, code::peeled);
            case 4:
                return both(run, calls, "determined()", naive::determined, code::determined);
            default:
                return both(run, calls, "missing()", naive::missing, code::missing);
        }
    }

    /** A thrown call must change nothing: all that can be asked is compared. */
    private void compareState(String when, FountainCode code, NaiveFountain naive) {
        checks.same(when + ": the state", stateOf(naive), stateOf(code));
    }

    private static String stateOf(NaiveFountain x) {
        StringBuilder text = new StringBuilder();
        text.append(x.blocks()).append(' ').append(x.equations()).append(' ').append(x.rank()).append(' ');
        text.append(x.peeled()).append(' ').append(x.determined()).append(' ').append(x.missing());
        for (int b = 0; b < x.blocks(); b++) {
            int block = b;
            text.append(' ').append(x.blockAt(b)).append(' ').append(x.peeledBy(b)).append(' ').append(x.isDetermined(b));
            text.append(' ').append(Checks.answerOf(() -> x.recovered(block)));
        }
        for (int place = 0; place < x.peeled(); place++) {
            text.append(' ').append(x.peeledAt(place));
        }
        for (int drop = -3; drop < 10; drop++) {
            text.append(' ').append(x.valueOf(drop)).append(' ').append(x.wouldDetermine(drop));
            for (int place = 0; place < x.degree(drop); place++) {
                text.append(' ').append(x.blockOf(drop, place));
            }
        }
        return text.toString();
    }

    private static String stateOf(FountainCode x) {
        StringBuilder text = new StringBuilder();
        text.append(x.blocks()).append(' ').append(x.equations()).append(' ').append(x.rank()).append(' ');
        text.append(x.peeled()).append(' ').append(x.determined()).append(' ').append(x.missing());
        for (int b = 0; b < x.blocks(); b++) {
            int block = b;
            text.append(' ').append(x.blockAt(b)).append(' ').append(x.peeledBy(b)).append(' ').append(x.isDetermined(b));
            text.append(' ').append(Checks.answerOf(() -> x.recovered(block)));
        }
        for (int place = 0; place < x.peeled(); place++) {
            text.append(' ').append(x.peeledAt(place));
        }
        for (int drop = -3; drop < 10; drop++) {
            text.append(' ').append(x.valueOf(drop)).append(' ').append(x.wouldDetermine(drop));
            for (int place = 0; place < x.degree(drop); place++) {
                text.append(' ').append(x.blockOf(drop, place));
            }
        }
        return text.toString();
    }

    private String both(int run, List<String> calls, String name, Callable<?> naive, Callable<?> code) {
        calls.add(name);
        String due = Checks.answerOf(naive);
        checks.same("run " + run + " call " + calls.size() + " " + name, due, Checks.answerOf(code));
        return due;
    }

    private static int odd(Random random) {
        return ODD_INTS[random.nextInt(ODD_INTS.length)];
    }
}
