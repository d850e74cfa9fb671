/** Brings eight blocks over a line that loses every other drop. README.md shows this program. */
public final class Example {
    private static final int SOURCES = 8;
    private static final int PARITIES = 1;

    public static void main(String[] args) {
        FountainCode code = new FountainCode();
        code.start(SOURCES, PARITIES);
        for (int block = 0; block < SOURCES; block++) {
            code.setBlock(block, 100 + block);
        }

        // A drop that is lost is simply not taken: 1, 3, 5 and so on here.
        int drop = 0;
        while (code.missing() > 0 && drop < 200) {
            code.receive(drop, code.valueOf(drop));
            drop += 2;
        }
        System.out.println(code.equations() + " equations, rank " + code.rank());
        System.out.println(code.peeled() + " blocks peeled, " + code.determined() + " determined");
        for (int block = 0; block < SOURCES; block++) {
            System.out.println("block " + block + " is " + code.recovered(block));
        }

        // All is determined now: no drop helps, and a wrong value is refused.
        if (code.nextHelpful(drop) == FountainCode.NONE) {
            System.out.println("no drop helps any more");
        }
        try {
            code.receive(drop, code.valueOf(drop) + 1);
        } catch (IllegalStateException e) {
            System.out.println("a wrong value is refused");
        }
    }
}
