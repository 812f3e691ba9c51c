/** Promises 18 to 20: rows laid into one another, and clicks on these. */
final class LaidTest {
    private static final Check check = new Check();

    private static final int[] SEEDS = {0, 1, 2, -1, 12345, Integer.MAX_VALUE, Integer.MIN_VALUE};
    private static final int[][] LAID = {
        {5, 100, 3, 107, 1, 102, 110, 4, 9, 108, 11, 6},
        {5, 100, 3, 107, 1, 102, 110, 4, 9, 108, 11, 6},
        {100, 5, 3, 107, 102, 1, 110, 4, 108, 9, 11, 6},
        {100, 5, 107, 3, 102, 1, 110, 4, 108, 9, 11, 6},
        {100, 5, 3, 107, 1, 102, 110, 4, 108, 9, 11, 6},
        {100, 5, 107, 3, 102, 1, 110, 4, 108, 9, 11, 6},
        {5, 100, 3, 107, 1, 102, 110, 4, 9, 108, 11, 6},
    };
    private static final int[] CLICKS = {100, 201, 100, 300, 101, 100, 500};
    private static final int[] PREFER_50 = {4602, 4602, 4602, 4702, 4600, 4601, 4601};
    private static final int[] PREFER_3 = {300, 300, 300, 300, 200, 300, 300};

    public static void main(String[] args) {
        laid();
        sixteenAtMost();
        emptyRows();
        laidRefused();
        clicks();
        clickChances();
        clicksThatEnd();
        clicksRefused();
        prefer();
        preferRefused();
        check.end();
    }

    private static void laid() {
        RankBench x = Samples.oneQuestion();
        for (int s = 0; s < SEEDS.length; s++) {
            for (int i = 0; i < 12; i++) {
                check.due("18: seed " + SEEDS[s] + ", " + i, x.laid(0, 1, 0, SEEDS[s], i), LAID[s][i]);
            }
            check.due("18: no more by seed " + SEEDS[s], x.laid(0, 1, 0, SEEDS[s], 12), -3);
        }
        check.due("18: a row with itself, first", x.laid(1, 1, 0, 0, 0), 0);
        check.due("18: a row with itself, second", x.laid(1, 1, 0, 0, 1), 107);
    }

    /** Seed 0 draws an even number first, so the first row begins. */
    private static void sixteenAtMost() {
        RankBench x = new RankBench();
        for (int i = 0; i < 16; i++) {
            x.rank(0, 0, i);
            x.rank(1, 0, 23 - i);
        }
        check.due("18: the first begins", x.laid(0, 1, 0, 0, 0), 0);
        check.due("18: the second follows", x.laid(0, 1, 0, 0, 1), 123);
        check.dueTrue("18: the sixteenth", x.laid(0, 1, 0, 0, 15) >= 0);
        check.due("18: no seventeenth", x.laid(0, 1, 0, 0, 16), -3);
        x.empty(1, 0);
        Samples.tell(x, 1, 0, 20);
        check.due("18: only the first goes on", x.laid(0, 1, 0, 0, 2), 1);
        check.due("18: the first up to 16", x.laid(0, 1, 0, 0, 15), 14);
        check.due("18: its last has no place", x.laid(0, 1, 0, 0, 16), -3);
        x.empty(1, 0);
        check.due("18: sixteen of one row", x.laid(0, 1, 0, 0, 15), 15);
        check.due("18: sixteen of the second", x.laid(1, 0, 0, 0, 15), 115);
        for (int i = 0; i < 16; i++) {
            x.rank(1, 0, i);
        }
        check.due("18: like rows, all laid once", x.laid(0, 1, 0, 0, 15) % 100, 15);
        check.due("18: like rows, no more", x.laid(0, 1, 0, 0, 16), -3);
    }

    private static void emptyRows() {
        RankBench x = Samples.oneQuestion();
        x.empty(3, 0);
        check.due("18: empty first", x.laid(3, 2, 0, 0, 0), 101);
        check.due("18: empty second", x.laid(2, 3, 0, 0, 2), 6);
        check.due("18: not so many", x.laid(2, 3, 0, 0, 3), -3);
        check.due("18: both empty", x.laid(3, 3, 0, 0, 0), -3);
        check.due("19: both empty", x.clicks(3, 3, 0, 0), 0);
        check.due("20: both empty", x.prefer(3, 3, 0, 0, 50), 0);
    }

    private static void laidRefused() {
        RankBench x = Samples.oneQuestion();
        check.due("18: one 4", x.laid(4, 1, 0, 0, 0), -1);
        check.due("18: other -1", x.laid(0, -1, 0, 0, 0), -1);
        check.due("18: question 8", x.laid(0, 1, 8, 0, 0), -1);
        check.due("18: the first has no row", x.laid(3, 1, 0, 0, 99), -1);
        check.due("18: the second has no row", x.laid(0, 3, 0, 0, 0), -1);
        check.due("18: i -1", x.laid(0, 1, 0, 0, -1), -3);
        check.due("18: the greatest", x.laid(0, 1, 0, 0, Integer.MAX_VALUE), -3);
        check.due("18: the least", x.laid(0, 1, 0, 0, Integer.MIN_VALUE), -3);
    }

    private static void clicks() {
        RankBench x = Samples.oneQuestion();
        for (int s = 0; s < SEEDS.length; s++) {
            check.due("19: seed " + SEEDS[s], x.clicks(0, 1, 0, SEEDS[s]), CLICKS[s]);
            check.due("19: the same again", x.clicks(0, 1, 0, SEEDS[s]), CLICKS[s]);
        }
        check.due("19: grades none and 0", x.clicks(0, 2, 0, -1), 104);
    }

    /** One document is laid by the first draw, so that the second one tells of a click. */
    private static void clickChances() {
        int[] chances = {20, 10, 30, 60, 90};
        for (int grade = -1; grade <= 3; grade++) {
            RankBench x = new RankBench();
            x.grade(0, 0, grade);
            x.rank(0, 0, 0);
            x.empty(1, 0);
            int chance = chances[grade + 1];
            int below = 0;
            int not = 0;
            for (int seed = 0; seed < 3000; seed++) {
                if (Draws.ofHundred(seed, 2) == chance - 1) {
                    below++;
                    check.due("19: just below, grade " + grade, x.clicks(0, 1, 0, seed), 1);
                    check.due("19: just below, the second's", x.clicks(1, 0, 0, seed), 100);
                } else if (Draws.ofHundred(seed, 2) == chance) {
                    not++;
                    check.due("19: just not below, grade " + grade, x.clicks(0, 1, 0, seed), 0);
                }
            }
            check.dueTrue("19: both were met, grade " + grade, below > 0 && not > 0);
        }
    }

    /** Two documents are laid by two draws; the third one clicks, the fourth ends it or not, the fifth clicks. */
    private static void clicksThatEnd() {
        RankBench x = new RankBench();
        x.grade(0, 0, 3);
        x.grade(0, 1, 3);
        Samples.tell(x, 0, 0, 0, 1);
        x.empty(1, 0);
        int ended = 0;
        int not = 0;
        for (int seed = 0; seed < 3000; seed++) {
            boolean bothClick = Draws.ofHundred(seed, 3) < 90 && Draws.ofHundred(seed, 5) < 90;
            if (bothClick && Draws.ofHundred(seed, 4) == 49) {
                ended++;
                check.due("19: it ends", x.clicks(0, 1, 0, seed), 1);
            } else if (bothClick && Draws.ofHundred(seed, 4) == 50) {
                not++;
                check.due("19: it goes on", x.clicks(0, 1, 0, seed), 2);
            }
        }
        check.dueTrue("19: both were met", ended > 0 && not > 0);
    }

    private static void clicksRefused() {
        RankBench x = Samples.oneQuestion();
        check.due("19: one -1", x.clicks(-1, 1, 0, 0), -1);
        check.due("19: other 4", x.clicks(0, 4, 0, 0), -1);
        check.due("19: question -1", x.clicks(0, 1, -1, 0), -1);
        check.due("19: the first has no row", x.clicks(3, 1, 0, 0), -1);
        check.due("19: the second has no row", x.clicks(0, 3, 0, 0), -1);
    }

    private static void prefer() {
        RankBench x = Samples.oneQuestion();
        for (int s = 0; s < SEEDS.length; s++) {
            check.due("20: 50 from " + SEEDS[s], x.prefer(0, 1, 0, SEEDS[s], 50), PREFER_50[s]);
            check.due("20: 3 from " + SEEDS[s], x.prefer(0, 1, 0, SEEDS[s], 3), PREFER_3[s]);
        }
        check.due("20: one seed", x.prefer(0, 1, 0, 12345, 1), 0);
    }

    private static void preferRefused() {
        RankBench x = Samples.oneQuestion();
        check.due("20: one 4", x.prefer(4, 1, 0, 0, 1), -1);
        check.due("20: other -1", x.prefer(0, -1, 0, 0, 1), -1);
        check.due("20: question 8", x.prefer(0, 1, 8, 0, 1), -1);
        check.due("20: the first has no row", x.prefer(3, 1, 0, 0, 51), -1);
        check.due("20: the second has no row", x.prefer(0, 3, 0, 0, 0), -1);
        check.due("20: n 0", x.prefer(0, 1, 0, 0, 0), -2);
        check.due("20: n 51", x.prefer(0, 1, 0, 0, 51), -2);
        check.due("20: n -1", x.prefer(0, 1, 0, 0, -1), -2);
    }
}
