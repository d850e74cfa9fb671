import java.util.ArrayList;
import java.util.List;

/** All that can be asked of a code, to see whether a call has changed anything. */
final class States {
    /** Nothing is promised of an object after that many calls. */
    static final int MOST_CALLS = 512;

    private static final int MOST_BLOCKS = 38;
    private static final List<Call> BLOCK_QUESTIONS = blockQuestions();
    private static final List<Call> DROP_QUESTIONS = dropQuestions();
    private static final List<Call> LATER_CALLS = laterCalls();

    private States() {}

    /** The answers of a code that is asked on the spot; questions change nothing. */
    static List<String> of(Object code) {
        List<String> answers = new ArrayList<>();
        ask(code, BLOCK_QUESTIONS, answers);
        ask(code, DROP_QUESTIONS, answers);
        return answers;
    }

    /**
     * The answers of codes that have had these calls, a new one for each group of questions. The
     * last group does change the code: it brings to light the weights, and the values of equations
     * that no question shows as yet.
     */
    static List<String> after(List<Call> made) {
        List<String> answers = new ArrayList<>();
        for (List<Call> group : List.of(BLOCK_QUESTIONS, DROP_QUESTIONS, LATER_CALLS)) {
            if (made.size() + group.size() > MOST_CALLS) {
                throw new AssertionError("too many calls to ask for the state as well");
            }
            FountainCode code = new FountainCode();
            for (Call call : made) {
                call.answerOf(code);
            }
            ask(code, group, answers);
        }
        return answers;
    }

    private static void ask(Object code, List<Call> calls, List<String> answers) {
        for (Call call : calls) {
            answers.add(call + " = " + call.answerOf(code));
        }
    }

    private static List<Call> blockQuestions() {
        List<Call> calls = numberQuestions();
        for (String name : List.of("blockAt", "peeledAt", "peeledBy", "isDetermined", "recovered")) {
            for (int block = -1; block <= MOST_BLOCKS; block++) {
                calls.add(new Call(name, block));
            }
        }
        return calls;
    }

    private static List<Call> numberQuestions() {
        List<Call> calls = new ArrayList<>();
        for (String name : List.of("blocks", "equations", "rank", "peeled", "determined", "missing")) {
            calls.add(new Call(name));
        }
        return calls;
    }

    private static List<Call> dropQuestions() {
        List<Call> calls = new ArrayList<>();
        for (int drop = -1; drop < 3; drop++) {
            for (String name : List.of("degree", "valueOf", "wouldHelp", "wouldDetermine")) {
                calls.add(new Call(name, drop));
            }
            for (int place = -1; place <= 12; place++) {
                calls.add(new Call("blockOf", drop, place));
            }
        }
        return calls;
    }

    private static List<Call> laterCalls() {
        List<Call> calls = new ArrayList<>();
        calls.add(new Call("nextHelpful", 0));
        calls.add(new Call("nextHelpful", Integer.MAX_VALUE));
        for (int degree = 1; degree <= 12; degree++) {
            calls.add(new Call("setWeight", degree, 1));
        }
        for (int drop = 9000; drop < 9060; drop++) {
            calls.add(new Call("receive", drop, drop * drop));
        }
        calls.addAll(numberQuestions());
        for (int block = 0; block < MOST_BLOCKS; block++) {
            calls.add(new Call("recovered", block));
            calls.add(new Call("peeledBy", block));
        }
        return calls;
    }
}
