import java.util.List;

/** Counts and prints the answers that are not as due. */
final class Checks {
    private static final int PRINTED = 50;

    private int wrong;

    void same(String what, Object due, Object got) {
        if (!due.equals(got)) {
            wrong++;
            if (wrong <= PRINTED) {
                System.out.println(what + " answered " + got + ", due is " + due);
            }
        }
    }

    /** Two states line by line, so that only the lines that differ are printed. */
    void sameLines(String what, List<String> due, List<String> got) {
        same(what + "number of lines", due.size(), got.size());
        for (int i = 0; i < due.size() && i < got.size(); i++) {
            same(what + "line " + i, due.get(i), got.get(i));
        }
    }

    /** Ends the program with exit code 1 if an answer was wrong. */
    void finish() {
        System.out.println(wrong == 0 ? "all answers are as due" : wrong + " answers are not as due");
        if (wrong > 0) {
            System.exit(1);
        }
    }
}
