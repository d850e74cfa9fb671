import java.util.ArrayList;
import java.util.List;

/** All that can be asked of a code, to see whether a call has changed anything. */
final class States {
    private static final int MOST_BLOCKS = 38;

    private States() {}

    static String of(Object code) {
        StringBuilder text = new StringBuilder();
        for (Call call : questions()) {
            text.append(call).append(" = ").append(call.answerOf(code)).append('\n');
        }
        return text.toString();
    }

    private static List<Call> questions() {
        List<Call> calls = new ArrayList<>();
        for (String name : List.of("blocks", "equations", "rank", "peeled", "determined", "missing")) {
            calls.add(new Call(name));
        }
        for (String name : List.of("blockAt", "peeledAt", "peeledBy", "isDetermined", "recovered")) {
            for (int block = -1; block <= MOST_BLOCKS; block++) {
                calls.add(new Call(name, block));
            }
        }
        for (int drop = -1; drop < 3; drop++) {
            for (String name : List.of("degree", "valueOf", "wouldHelp", "wouldDetermine")) {
                calls.add(new Call(name, drop));
            }
            for (int place = -1; place <= 12; place++) {
                calls.add(new Call("blockOf", drop, place));
            }
        }
        return calls;
    }
}
