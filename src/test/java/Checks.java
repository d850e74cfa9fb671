/** Counts and prints the answers that are not as due. */
final class Checks {
    private static final int PRINTED = 50;

    private int wrong;

    void same(String what, Object due, Object got) {
        if (!due.equals(got)) {
            wrong++;
            if (wrong <= PRINTED) {
                System.out.println(what + " answered " + got + ", due is " + due);
            }
        }
    }

    /** Ends the program with exit code 1 if an answer was wrong. */
    void finish() {
        System.out.println(wrong == 0 ? "all answers are as due" : wrong + " answers are not as due");
        if (wrong > 0) {
            System.exit(1);
        }
    }
}
