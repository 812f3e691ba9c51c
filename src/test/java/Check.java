/** Counts what is not as due, prints it, and ends the test with exit code 1 if there was any. */
final class Check {
    private int asked;
    private int wrong;

    void due(String what, long got, long want) {
        asked++;
        if (got != want) {
            wrong++;
            System.out.println(what + " answered " + got + ", due is " + want);
        }
    }

    void dueTrue(String what, boolean holds) {
        due(what, holds ? 1 : 0, 1);
    }

    /** The board, after a call that was due to answer a given number. */
    void dueBoard(String what, RankBench bench, long got, long want, long top, long bottom) {
        due(what, got, want);
        due(what + ", top", bench.top(), top);
        due(what + ", bottom", bench.bottom(), bottom);
    }

    void end() {
        System.out.println(asked + " answers, " + wrong + " not as due");
        if (asked == 0 || wrong != 0) {
            System.exit(1);
        }
    }
}
