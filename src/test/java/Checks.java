import java.util.concurrent.Callable;

/** Counts and prints the answers that are not as due. */
final class Checks {
    private int wrong;

    void equal(String what, long due, long got) {
        if (due != got) {
            report(what + " answered " + got + ", due is " + due);
        }
    }

    void isTrue(String what, boolean got) {
        if (!got) {
            report(what + " does not hold");
        }
    }

    void same(String what, Object due, Object got) {
        if (!due.equals(got)) {
            report(what + " answered " + got + ", due is " + due);
        }
    }

    void throwsExactly(String what, Class<? extends RuntimeException> due, Callable<?> call) {
        same(what, "throws " + due.getSimpleName(), answerOf(call));
    }

    /** The answer as a text; an exception is an answer too. */
    static String answerOf(Callable<?> call) {
        try {
            return String.valueOf(call.call());
        } catch (Exception e) {
            return "throws " + e.getClass().getSimpleName();
        }
    }

    void finish() {
        if (wrong > 0) {
            System.out.println(wrong + " answers are not as due");
            System.exit(1);
        }
        System.out.println("all answers are as due");
    }

    private void report(String text) {
        wrong++;
        if (wrong <= 50) {
            System.out.println(text);
        }
    }
}
