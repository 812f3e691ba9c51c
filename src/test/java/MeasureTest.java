/** Promises 8 to 11: measures, the board that shows them, gains by logarithms. */
final class MeasureTest {
    private static final Check check = new Check();

    // By ranker and k of the sample: top and bottom of the measures 0 .. 8.
    private static final int[][] ASKED = {{0, 1}, {0, 5}, {0, 8}, {0, 16}, {1, 1}, {1, 5}, {1, 8}, {1, 16}, {2, 2}};
    private static final int[][] SHOWN = {
        {0, 1, 0, 1, 0, 1, 0, 1, 0, 1, 0, 1, 0, 1, 0, 1, 0, 1},
        {2, 5, 1, 3, 11, 90, 1, 3, 38, 15, 152, 747, 1, 6, 1, 1, 1, 2},
        {1, 2, 2, 3, 13, 45, 1, 3, 153, 40, 459, 1514, 2, 9, 1, 1, 4, 7},
        {3, 8, 1, 1, 917, 1980, 1, 3, 387, 88, 5805, 16654, 2, 9, 3, 1, 2, 3},
        {1, 1, 1, 6, 1, 6, 1, 1, 7, 1, 1, 1, 1, 6, 0, 1, 1, 1},
        {1, 1, 5, 6, 5, 6, 1, 1, 249, 20, 1, 1, 5, 6, 0, 1, 1, 1},
        {3, 4, 1, 1, 1, 1, 1, 1, 757, 60, 1, 1, 1, 1, 0, 1, 1, 1},
        {3, 8, 1, 1, 1, 1, 1, 1, 757, 60, 1, 1, 1, 1, 0, 1, 1, 1},
        {0, 1, 0, 1, 0, 1, 0, 1, 0, 1, 0, 1, 0, 1, 1, 1, 0, 1},
    };

    public static void main(String[] args) {
        measures();
        withoutGoodOnes();
        preferenceWithoutGradeZero();
        preferenceHasItsMost();
        bestRowIsCutAtK();
        emptyRow();
        onlyUnjudged();
        measuresRefused();
        boardStays();
        gains();
        logarithms();
        gainsRefused();
        check.end();
    }

    private static void measures() {
        RankBench x = Samples.oneQuestion();
        for (int i = 0; i < ASKED.length; i++) {
            for (int what = 0; what <= 8; what++) {
                String call = "8: measure(" + ASKED[i][0] + ", 0, " + what + ", " + ASKED[i][1] + ")";
                check.dueBoard(call, x, x.measure(ASKED[i][0], 0, what, ASKED[i][1]), 1,
                        SHOWN[i][2 * what], SHOWN[i][2 * what + 1]);
            }
        }
    }

    private static void withoutGoodOnes() {
        RankBench x = new RankBench();
        x.grade(0, 0, 0);
        Samples.tell(x, 0, 0, 0, 1, 2);
        for (int what = 0; what <= 6; what++) {
            check.dueBoard("8: no good one, " + what, x, x.measure(0, 0, what, 3), 1, 0, 1);
        }
        check.dueBoard("8: not judged", x, x.measure(0, 0, 7, 3), 1, 2, 1);
        check.dueBoard("8: sure", x, x.measure(0, 0, 8, 3), 1, 0, 1);
    }

    private static void preferenceWithoutGradeZero() {
        RankBench x = new RankBench();
        x.grade(0, 0, 1);
        x.grade(0, 1, 2);
        x.grade(0, 2, 3);
        Samples.tell(x, 0, 0, 5, 0, 6, 1);
        check.dueBoard("8: each adds 1", x, x.measure(0, 0, 6, 4), 1, 2, 3);
        check.dueBoard("8: of the first k", x, x.measure(0, 0, 6, 2), 1, 1, 3);
    }

    private static void preferenceHasItsMost() {
        RankBench x = new RankBench();
        for (int document = 0; document < 5; document++) {
            x.grade(0, document, 0);
        }
        x.grade(0, 10, 1);
        x.grade(0, 11, 1);
        Samples.tell(x, 0, 0, 0, 10, 1, 2, 11);
        check.dueBoard("8: half of one, none of the other", x, x.measure(0, 0, 6, 16), 1, 1, 4);
        Samples.tell(x, 1, 0, 10, 20, 11);
        check.dueBoard("8: one not judged hurts nothing", x, x.measure(1, 0, 6, 16), 1, 1, 1);
        RankBench y = new RankBench();
        y.grade(0, 0, 0);
        for (int document = 1; document < 5; document++) {
            y.grade(0, document, 1);
        }
        Samples.tell(y, 0, 0, 1, 0, 2, 3);
        check.dueBoard("8: the most is N", y, y.measure(0, 0, 6, 16), 1, 1, 4);
    }

    private static void bestRowIsCutAtK() {
        RankBench x = new RankBench();
        for (int document = 0; document < 24; document++) {
            x.grade(0, document, 3);
        }
        for (int document = 0; document < 16; document++) {
            x.rank(0, 0, document);
        }
        for (int k = 1; k <= 16; k++) {
            check.dueBoard("8: share at " + k, x, x.measure(0, 0, 5, k), 1, 1, 1);
        }
        check.dueBoard("8: gain at 16", x, x.measure(0, 0, 4, 16), 1, 2436559, 102960);
        check.dueBoard("8: average by all good ones", x, x.measure(0, 0, 2, 16), 1, 2, 3);
        check.dueBoard("8: recall by all good ones", x, x.measure(0, 0, 1, 16), 1, 2, 3);
    }

    private static void emptyRow() {
        RankBench x = new RankBench();
        x.grade(0, 0, 1);
        x.empty(0, 0);
        for (int what = 0; what <= 8; what++) {
            check.dueBoard("8: empty row, " + what, x, x.measure(0, 0, what, 16), 1, 0, 1);
        }
    }

    private static void onlyUnjudged() {
        RankBench x = new RankBench();
        x.grade(0, 0, 1);
        Samples.tell(x, 0, 0, 3, 4, 0);
        check.dueBoard("8: none is left", x, x.measure(0, 0, 8, 2), 1, 0, 1);
        check.dueBoard("8: one is left", x, x.measure(0, 0, 8, 3), 1, 1, 1);
        check.dueBoard("8: not judged of the first 3", x, x.measure(0, 0, 7, 3), 1, 2, 1);
        check.dueBoard("8: not judged of the row", x, x.measure(0, 0, 7, 16), 1, 2, 1);
        x.grade(0, 3, 0);
        x.measure(0, 0, 7, 16);
        check.due("8: grades count as they are now", x.top(), 1);
    }

    private static void measuresRefused() {
        RankBench x = Samples.oneQuestion();
        x.measure(0, 0, 2, 16);
        check.dueBoard("8: ranker 4", x, x.measure(4, 0, 0, 1), -1, 917, 1980);
        check.dueBoard("8: ranker -1", x, x.measure(-1, 0, 0, 1), -1, 917, 1980);
        check.dueBoard("8: question 8", x, x.measure(0, 8, 0, 1), -1, 917, 1980);
        check.dueBoard("8: question -1", x, x.measure(0, -1, 0, 1), -1, 917, 1980);
        check.dueBoard("8: no row", x, x.measure(3, 0, 0, 1), -1, 917, 1980);
        check.dueBoard("8: no row before what", x, x.measure(3, 0, 9, 0), -1, 917, 1980);
        check.dueBoard("8: what 9", x, x.measure(0, 0, 9, 1), -2, 917, 1980);
        check.dueBoard("8: what -1", x, x.measure(0, 0, -1, 1), -2, 917, 1980);
        check.dueBoard("8: k 0", x, x.measure(0, 0, 0, 0), -2, 917, 1980);
        check.dueBoard("8: k 17", x, x.measure(0, 0, 0, 17), -2, 917, 1980);
    }

    private static void boardStays() {
        RankBench x = Samples.oneQuestion();
        x.measure(0, 0, 2, 16);
        x.grade(0, 0, 0);
        x.empty(0, 0);
        x.gain(1, 0, 3, true);
        x.pool(0, 3, 0);
        x.laid(0, 1, 0, 1, 0);
        x.clicks(0, 1, 0, 1);
        x.prefer(0, 1, 0, 1, 3);
        x.wins(0, 1, 0, 3, 0);
        check.due("9: what was asked latest", x.top(), 917);
        check.due("10: what was asked latest", x.bottom(), 1980);
        check.due("9: asked again", x.top(), 917);
    }

    private static void gains() {
        RankBench x = Samples.oneQuestion();
        check.due("11: low at 1", x.gain(0, 0, 1, false), 0);
        check.due("11: high at 1", x.gain(0, 0, 1, true), 0);
        check.due("11: low at 5", x.gain(0, 0, 5, false), 4075658);
        check.due("11: high at 5", x.gain(0, 0, 5, true), 4075661);
        check.due("11: low of all", x.gain(0, 0, 16, false), 8807815);
        check.due("11: high of all", x.gain(0, 0, 16, true), 8807823);
        check.due("11: low, the best", x.gain(1, 0, 6, false), 15677875);
        check.due("11: high, the best", x.gain(1, 0, 6, true), 15677891);
        check.due("11: no good one", x.gain(2, 0, 3, true), 0);
    }

    /** One document of grade 1 at each rank: 2^40 by its log (and 1), which was worked out apart from the class. */
    private static void logarithms() {
        int[] logs = {1048576, 1661953, 2097152, 2434718, 2710529, 2943724, 3145728, 3323907,
            3483294, 3627476, 3759105, 3880192, 3992300, 4096671, 4194304, 4286015};
        for (int rank = 1; rank <= 16; rank++) {
            RankBench x = new RankBench();
            x.grade(5, 23, 1);
            for (int document = 0; document < rank - 1; document++) {
                x.rank(2, 5, document);
            }
            x.rank(2, 5, 23);
            long log = logs[rank - 1];
            long two40 = 1L << 40;
            check.due("11: low at rank " + rank, x.gain(2, 5, 16, false), two40 / (log + 1));
            check.due("11: high at rank " + rank, x.gain(2, 5, 16, true), two40 / log + (two40 % log == 0 ? 0 : 1));
        }
    }

    private static void gainsRefused() {
        RankBench x = Samples.oneQuestion();
        check.due("11: no row", x.gain(3, 0, 1, true), -1);
        check.due("11: ranker 4", x.gain(4, 0, 1, true), -1);
        check.due("11: question 8", x.gain(0, 8, 1, false), -1);
        check.due("11: question -1", x.gain(0, -1, 1, false), -1);
        check.due("11: k 0", x.gain(0, 0, 0, false), -2);
        check.due("11: k 17", x.gain(0, 0, 17, true), -2);
        check.due("11: no row before k", x.gain(3, 0, 17, true), -1);
    }
}
