import java.lang.reflect.InvocationTargetException;
import java.lang.reflect.Method;
import java.util.ArrayList;
import java.util.Arrays;
import java.util.Comparator;
import java.util.List;

/**
 * Tests that each try one sentence of the document on a new code. NaiveFountain takes the same
 * calls as the code: each answer is held against its answer too, and it finds the drops that a test
 * wants, so that the code is asked for nothing but what is tried.
 */
abstract class Trials {
    static final int NONE = -1;
    static final int MIN = Integer.MIN_VALUE;
    static final int MAX = Integer.MAX_VALUE;
    static final String ARGUMENT = "throws IllegalArgumentException";
    static final String STATE = "throws IllegalStateException";
    static final String INDEX = "throws IndexOutOfBoundsException";

    private static final int SOUGHT_DROPS = 1_000_000;

    final Checks checks = new Checks();
    NaiveFountain model;
    private FountainCode code;
    private List<Call> made;
    private String sentence;

    /** Runs every method that bears a sentence; ends the program with exit code 1 if one fails. */
    final void runAll() {
        Method[] methods = getClass().getDeclaredMethods();
        Arrays.sort(methods, Comparator.comparing(Method::getName));
        int run = 0;
        for (Method method : methods) {
            if (method.isAnnotationPresent(Sentence.class)) {
                run++;
                run(method);
            }
        }
        checks.same("tests were found", true, run > 0);
        checks.finish();
    }

    private void run(Method method) {
        sentence = method.getAnnotation(Sentence.class).value();
        beginAnew();
        try {
            method.invoke(this);
        } catch (InvocationTargetException e) {
            checks.same(sentence + " [" + method.getName() + "]", "no exception", String.valueOf(e.getCause()));
        } catch (IllegalAccessException e) {
            throw new IllegalStateException(e);
        }
    }

    /** Goes on with a new code. */
    final void beginAnew() {
        code = new FountainCode();
        model = new NaiveFountain();
        made = new ArrayList<>();
    }

    /** Makes a call that leads to what is tried: it must not throw. */
    final void make(String name, int... arguments) {
        String answer = answerOf(new Call(name, arguments));
        checks.same(where() + " throws", false, answer.startsWith("throws"));
    }

    final void due(Object answer, String name, int... arguments) {
        String got = answerOf(new Call(name, arguments));
        checks.same(where(), String.valueOf(answer), got);
    }

    /** The call answers so, and nothing has changed. */
    final void dueUnchanged(Object answer, String name, int... arguments) {
        List<String> before = States.after(made);
        due(answer, name, arguments);
        checks.sameLines(where() + " leaves ", before, States.after(made));
    }

    /** The calls made so far lead where those others lead. */
    final void dueSameStateAs(List<Call> others) {
        checks.sameLines(where() + " leads to ", States.after(others), States.after(made));
    }

    final List<Call> callsMade() {
        return new ArrayList<>(made);
    }

    private String answerOf(Call call) {
        if (made.size() == States.MOST_CALLS) {
            throw new AssertionError("nothing is promised of an object after so many calls");
        }
        made.add(call);
        String answer = call.answerOf(code);
        checks.same(where() + " held against the model", call.answerOf(model), answer);
        return answer;
    }

    private String where() {
        return sentence + " [call " + made.size() + ": " + made.get(made.size() - 1) + "]";
    }

    /** Leaves weight, 1, with one degree alone. */
    final void onlyDegree(int only) {
        onlyDegree(only, 1);
    }

    final void onlyDegree(int only, int weight) {
        make("setWeight", only, weight);
        for (int degree = 1; degree <= 12; degree++) {
            if (degree != only) {
                make("setWeight", degree, 0);
            }
        }
    }

    /** The receiver takes a drop with just these blocks. */
    final void take(int value, int... blocks) {
        make("receive", dropOf(blocks), value);
    }

    /** The first drop that has just these blocks, in whatever order. */
    final int dropOf(int... blocks) {
        int[] wanted = blocks.clone();
        Arrays.sort(wanted);
        for (int drop = 0; drop < SOUGHT_DROPS; drop++) {
            if (Arrays.equals(wanted, sortedBlocks(drop))) {
                return drop;
            }
        }
        throw new AssertionError("no drop has the blocks " + Arrays.toString(blocks));
    }

    private int[] sortedBlocks(int drop) {
        return model.blocksOf(drop).stream().mapToInt(Integer::intValue).sorted().toArray();
    }

    /** The first of drops that follow on one another and have these blocks, each a single one. */
    final int firstOfSingles(int... blocks) {
        for (int first = 0; first < SOUGHT_DROPS; first++) {
            int fitting = 0;
            while (fitting < blocks.length && model.blocksOf(first + fitting).equals(List.of(blocks[fitting]))) {
                fitting++;
            }
            if (fitting == blocks.length) {
                return first;
            }
        }
        throw new AssertionError("no such drops: " + Arrays.toString(blocks));
    }

    /** The first drop that helps and comes right behind at least so many that do not. */
    final int helpfulAfterGap(int first, int least) {
        int gap = 0;
        for (int sought = 0; sought < SOUGHT_DROPS; sought++) {
            boolean helps = model.wouldHelp(first + sought);
            if (helps && gap >= least) {
                return first + sought;
            }
            gap = helps ? 0 : gap + 1;
        }
        throw new AssertionError("no such gap");
    }

    /**
     * A transfer in which nothing is alike: 8 source and 3 parity blocks; block 7 is peeled by equation
     * 3; blocks 0, 1 and 2 are determined but not peeled; of 3 and 4 only the exclusive or is known.
     */
    final void startMidway() {
        make("start", 8, 3);
        for (int block = 0; block < 8; block++) {
            make("setBlock", block, 1 << 4 * block);
        }
        take(70, 7);
        take(1, 0, 1);
        take(2, 1, 2);
        take(7, 0, 1, 2);
        take(90, 3, 4);
    }

    /** Takes the drop with all of the blocks 0 and 1 until so many drops have been taken with it. */
    final void takePairs(int count, int value) {
        int pair = dropOf(0, 1);
        for (int taken = 0; taken < count; taken++) {
            make("receive", pair, value);
        }
    }
}
