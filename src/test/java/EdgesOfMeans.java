/** Boundary cases of promises 12 to 14: means, odds and wins over questions. */
final class EdgesOfMeans {
    private static final int[] WITH_MEAN = {0, 1, 2, 3, 6, 7, 8};
    private static final int[] WITHOUT_MEAN = {4, 5, -1, 9, Edges.LEAST, Edges.GREATEST};
    private static final int[] NO_SIDE = {-1, 3, Edges.LEAST, Edges.GREATEST};

    private final Edges edges;

    EdgesOfMeans(Edges edges) {
        this.edges = edges;
    }

    void tryAll() {
        meanOfOneAndAll();
        meanCorners();
        meanDepths();
        meanOfWhichMeasures();
        meanOfEmptyRows();
        meanOfGoodQuestions();
        meanDividedByZero();
        meanOfUnlikeParts();
        meanOfNone();
        meanRefused();
        meanFirstThatFits();
        oddsOfOneAndAll();
        oddsCorners();
        oddsDepths();
        oddsOfWhichMeasures();
        oddsOfWhatCountsForBoth();
        oddsOfDifferences();
        oddsOfAsMuch();
        oddsDividedByZero();
        oddsOfOneRanker();
        oddsOfNone();
        oddsRefused();
        oddsFirstThatFits();
        winsSides();
        winsCorners();
        winsDepths();
        winsOfLikeFractions();
        winsDividedByZero();
        winsOfWhichMeasures();
        winsOfWhatCounts();
        winsOfNone();
        winsRefused();
        winsFirstThatFits();
    }

    /** The question's one good document is 0; the ranker has it first, or another one. */
    private static void tell(Asked x, int ranker, int question, boolean good) {
        x.grade(question, 0, 1);
        x.row(ranker, question, good ? 0 : 1);
    }

    private static void shows(Asked x, int counted, long top, long bottom, int ranker, int what, int k) {
        x.due(counted).mean(ranker, what, k);
        x.board(top, bottom);
    }

    private void meanOfOneAndAll() {
        Asked x = edges.of(12, "THE BOARD shows THE MEAN: over how many QUESTIONS.");
        for (int question = 7; question >= 0; question--) {
            tell(x, 0, question, question == 7);
            shows(x, 8 - question, 1, 8 - question, 0, 0, 1);
        }
        x = edges.of(12, Edges.QUESTIONS);
        tell(x, 0, 0, true);
        shows(x, 1, 1, 1, 0, 0, 1);
        tell(x, 0, 7, false);
        shows(x, 2, 1, 2, 0, 0, 1);
        x.drop(0, 0);
        shows(x, 1, 0, 1, 0, 0, 1);
    }

    private void meanCorners() {
        Asked x = edges.of(12, Edges.NUMBERS);
        tell(x, 0, 0, true);
        tell(x, 3, 0, false);
        shows(x, 1, 1, 1, 0, 0, 1);
        shows(x, 1, 0, 1, 3, 0, 1);
        x.due(-3).mean(1, 0, 1);
        x.due(-3).mean(2, 0, 1);
        x.due(-1).mean(-1, 0, 1);
        x.due(-1).mean(4, 0, 1);
    }

    private void meanDepths() {
        Asked x = edges.of(12, Edges.DEPTHS);
        x.grade(0, 15, 1);
        x.rowRange(0, 0, 0, 16);
        shows(x, 1, 0, 1, 0, 3, 1);
        shows(x, 1, 0, 1, 0, 3, 15);
        shows(x, 1, 1, 16, 0, 3, 16);
        x.due(-2).mean(0, 3, 0);
        x.due(-2).mean(0, 3, 17);
    }

    private void meanOfWhichMeasures() {
        Asked x = edges.of(12, "THE MEAN of a MEASURE (but 4, 5) of a RANKER:");
        tell(x, 0, 0, true);
        tell(x, 0, 1, false);
        for (int what : WITH_MEAN) {
            x.due(2).mean(0, what, 1);
            x.board(1, 2);
        }
        x.due(-2).mean(0, 4, 1);
        x.due(-2).mean(0, 5, 1);
        x.board(1, 2);
    }

    private void meanOfEmptyRows() {
        Asked x = edges.of(12, "the sum over the QUESTIONS for which it has a ROW (also an empty one that was told)");
        tell(x, 0, 0, true);
        x.grade(1, 0, 1);
        shows(x, 1, 1, 1, 0, 0, 1);
        x.empty(0, 1);
        for (int what : WITH_MEAN) {
            shows(x, 2, what == 7 ? 0 : 1, what == 7 ? 1 : 2, 0, what, 1);
        }
        x.drop(0, 1);
        shows(x, 1, 1, 1, 0, 0, 1);
        x.row(1, 1, 0);
        shows(x, 1, 1, 1, 0, 0, 1);
        x.empty(0, 0);
        shows(x, 1, 0, 1, 0, 0, 1);
    }

    private void meanOfGoodQuestions() {
        Asked x = edges.of(12, "and that have a GOOD DOCUMENT, by how many these are.");
        tell(x, 0, 0, true);
        x.row(0, 1, 0);
        shows(x, 1, 1, 1, 0, 0, 1);
        x.grade(1, 0, 0);
        shows(x, 1, 1, 1, 0, 0, 1);
        x.grade(1, 23, 0);
        shows(x, 1, 0, 1, 0, 7, 1);
        x.grade(1, 23, 1);
        shows(x, 2, 1, 2, 0, 0, 1);
        x.grade(1, 23, -1);
        shows(x, 1, 1, 1, 0, 0, 1);
    }

    /** SURE of rows in which nothing is judged, and of one in which all is. */
    private void meanDividedByZero() {
        Asked x = edges.of(12, Edges.DIVIDED_BY_ZERO);
        x.grade(0, 0, 1);
        x.row(0, 0, 5, 6);
        shows(x, 1, 0, 1, 0, 8, 16);
        x.grade(1, 0, 1);
        x.row(0, 1, 0);
        shows(x, 2, 1, 2, 0, 8, 16);
    }

    private void meanOfUnlikeParts() {
        Asked x = edges.of(12, "by how many these are.").eightQuestions();
        shows(x, 8, 79, 128, 0, 0, 16);
        shows(x, 8, 1950012397L, 2855588736L, 0, 1, 16);
        shows(x, 8, 8500942095937L, 17590426613760L, 0, 2, 16);
        shows(x, 8, 83618324627L, 399782423040L, 1, 2, 7);
        shows(x, 8, 79, 96, 1, 3, 16);
        shows(x, 8, 21791188215091L, 79156919761920L, 0, 6, 7);
        shows(x, 8, 37, 56, 0, 8, 7);
    }

    private void meanOfNone() {
        Asked x = edges.of(12, "-3: none counts.");
        x.due(-3).mean(0, 0, 1);
        x.row(0, 0, 0);
        x.due(-3).mean(0, 0, 1);
        x.grade(0, 0, 0);
        x.due(-3).mean(0, 0, 1);
        x.grade(1, 0, 3);
        x.due(-3).mean(0, 0, 1);
        x.row(1, 1, 0);
        x.due(-3).mean(0, 0, 1);
        x.grade(0, 0, 1);
        x.due(1).mean(0, 0, 1);
        x.drop(0, 0);
        x.due(-3).mean(0, 0, 1);
        x.board(1, 1);
    }

    private static void meanNoSuch(Asked x) {
        for (int ranker : Edges.NO_RANKER) {
            x.due(-1).mean(ranker, 0, 1);
        }
    }

    private static void meanOutside(Asked x) {
        for (int what : WITHOUT_MEAN) {
            x.due(-2).mean(0, what, 1);
        }
        for (int k : Edges.NO_DEPTH) {
            for (int what : WITH_MEAN) {
                x.due(-2).mean(0, what, k);
            }
        }
    }

    private void meanRefused() {
        meanNoSuch(edges.of(12, "-1;").standard());
        meanOutside(edges.of(12, "-2;").standard());
        Asked x = edges.of(12, Edges.REFUSED).standard();
        meanNoSuch(x);
        meanOutside(x);
        x.due(-3).mean(3, 0, 1);
        x.isStandard();
    }

    private void meanFirstThatFits() {
        Asked x = edges.of(12, Edges.FIRST_THAT_FITS).standard();
        x.due(-1).mean(4, 4, 0);
        x.due(-1).mean(-1, 0, 17);
        x.due(-2).mean(3, 4, 1);
        x.due(-2).mean(3, 0, 0);
        x.due(-2).mean(3, 0, 17);
        x.due(-3).mean(3, 0, 16);
        x.isStandard();
    }

    private static void odds(Asked x, int counted, long top, long bottom, int what, int k) {
        x.due(counted).odds(0, 1, what, k);
        x.board(top, bottom);
    }

    private void oddsOfOneAndAll() {
        Asked x = edges.of(13, "THE BOARD shows ODDS: n.");
        for (int question = 7; question >= 0; question--) {
            tell(x, 0, question, true);
            tell(x, 1, question, false);
            odds(x, 8 - question, 1, 1L << (7 - question), 0, 1);
        }
    }

    private void oddsCorners() {
        Asked x = edges.of(13, Edges.NUMBERS);
        tell(x, 0, 0, true);
        tell(x, 3, 0, false);
        tell(x, 0, 7, true);
        tell(x, 3, 7, false);
        x.due(2).odds(0, 3, 0, 1);
        x.board(1, 2);
        x.due(2).odds(3, 0, 0, 1);
        x.due(-3).odds(0, 2, 0, 1);
        x.due(-1).odds(0, 4, 0, 1);
        x.due(-1).odds(-1, 3, 0, 1);
    }

    private void oddsDepths() {
        Asked x = edges.of(13, Edges.DEPTHS);
        for (int question = 0; question < 2; question++) {
            x.grade(question, 15, 1);
            x.rowRange(0, question, 0, 16);
            x.row(1, question);
        }
        odds(x, 2, 1, 1, 0, 1);
        odds(x, 2, 1, 1, 0, 15);
        odds(x, 2, 1, 2, 0, 16);
        x.due(-2).odds(0, 1, 0, 0);
        x.due(-2).odds(0, 1, 0, 17);
    }

    private void oddsOfWhichMeasures() {
        Asked x = edges.of(13, "3 TWO ROWS. ODDS of two RANKERS by a MEASURE (but 4, 5):");
        for (int question = 0; question < 2; question++) {
            tell(x, 0, question, true);
            tell(x, 1, question, false);
        }
        for (int what : WITH_MEAN) {
            odds(x, 2, 1, 2, what, 1);
        }
        x.due(-2).odds(0, 1, 4, 1);
        x.due(-2).odds(0, 1, 5, 1);
        x.board(1, 2);
    }

    private void oddsOfWhatCountsForBoth() {
        Asked x = edges.of(13, "over the QUESTIONS that count for both, n of them,");
        tell(x, 0, 0, true);
        tell(x, 1, 0, false);
        tell(x, 0, 1, true);
        tell(x, 1, 2, true);
        odds(x, 1, 1, 1, 0, 1);
        x.empty(1, 1);
        odds(x, 2, 1, 2, 0, 1);
        x.empty(0, 2);
        odds(x, 3, 1, 1, 0, 1);
        x.grade(2, 0, 0);
        odds(x, 2, 1, 2, 0, 1);
        x.row(0, 3, 0);
        x.row(1, 3, 1);
        odds(x, 2, 1, 1, 7, 1);
        x.drop(0, 0);
        odds(x, 1, 1, 1, 0, 1);
    }

    /** Recall at 1 with R 2, 3 and 6: the differences are 1/2, 1/3 and -1/6; then -1/6 is 1/6. */
    private void oddsOfDifferences() {
        Asked x = edges.of(13, "the DIFFERENCES (of the first less the second);");
        int[] goodOnes = {2, 3, 6};
        for (int question = 0; question < 3; question++) {
            x.gradeRange(question, 0, goodOnes[question], 1);
            x.row(0, question, question == 2 ? 20 : 0);
            x.row(1, question, question == 2 ? 0 : 20);
        }
        odds(x, 3, 1, 2, 1, 1);
        x.due(3).odds(1, 0, 1, 1);
        x.board(1, 2);
        x.row(0, 2, 0);
        x.row(1, 2);
        odds(x, 3, 1, 4, 1, 1);
        x = edges.of(13, "the DIFFERENCES (of the first less the second);").eightQuestions();
        odds(x, 8, 9, 32, 2, 16);
        odds(x, 8, 3, 16, 2, 7);
        odds(x, 8, 1, 4, 1, 16);
        odds(x, 8, 23, 64, 6, 7);
    }

    private void oddsOfAsMuch() {
        Asked x = edges.of(13, "of all 2^n ways to turn signs of these, how many have a sum whose size "
                + "is that of theirs, or greater, by 2^n.");
        tell(x, 0, 0, true);
        tell(x, 1, 0, true);
        odds(x, 1, 1, 1, 0, 1);
        tell(x, 1, 0, false);
        odds(x, 1, 1, 1, 0, 1);
        tell(x, 0, 1, false);
        tell(x, 1, 1, true);
        odds(x, 2, 1, 1, 0, 1);
        tell(x, 0, 2, true);
        tell(x, 1, 2, false);
        odds(x, 3, 1, 1, 0, 1);
        tell(x, 0, 3, true);
        tell(x, 1, 3, false);
        odds(x, 4, 5, 8, 0, 1);
        tell(x, 1, 1, false);
        odds(x, 4, 1, 4, 0, 1);
        for (int question = 4; question < 8; question++) {
            tell(x, 0, question, false);
            tell(x, 1, question, false);
        }
        odds(x, 8, 1, 4, 0, 1);
    }

    /** SURE of a row in which nothing is judged, against one with a bad document and one with a good one. */
    private void oddsDividedByZero() {
        Asked x = edges.of(13, Edges.DIVIDED_BY_ZERO);
        for (int question = 0; question < 2; question++) {
            x.grades(question, 1, 0);
            x.row(0, question, 5, 6);
            x.row(1, question, 1);
        }
        odds(x, 2, 1, 1, 8, 16);
        x.row(1, 0, 0);
        x.row(1, 1, 0);
        odds(x, 2, 1, 2, 8, 16);
    }

    private void oddsOfOneRanker() {
        Asked x = edges.of(13, "-3: both RANKERS are one,").standard();
        for (int ranker = 0; ranker < 4; ranker++) {
            x.due(-3).odds(ranker, ranker, 0, 1);
        }
        x.isStandard();
    }

    private void oddsOfNone() {
        Asked x = edges.of(13, "no QUESTION counts for both.");
        x.due(-3).odds(0, 1, 0, 1);
        tell(x, 0, 0, true);
        tell(x, 1, 1, true);
        x.due(-3).odds(0, 1, 0, 1);
        x.due(-3).odds(1, 0, 0, 1);
        x.row(0, 2, 0);
        x.row(1, 2, 1);
        x.due(-3).odds(0, 1, 0, 1);
        x.grade(2, 0, 0);
        x.due(-3).odds(0, 1, 0, 1);
        x.board(0, 1);
        x.grade(2, 23, 1);
        x.due(1).odds(0, 1, 0, 1);
        x.board(1, 1);
    }

    private static void oddsNoSuch(Asked x) {
        for (int ranker : Edges.NO_RANKER) {
            x.due(-1).odds(ranker, 0, 0, 1);
            x.due(-1).odds(0, ranker, 0, 1);
            x.due(-1).odds(ranker, ranker, 0, 1);
        }
    }

    private static void oddsOutside(Asked x) {
        for (int what : WITHOUT_MEAN) {
            x.due(-2).odds(0, 1, what, 1);
        }
        for (int k : Edges.NO_DEPTH) {
            for (int what : WITH_MEAN) {
                x.due(-2).odds(0, 1, what, k);
            }
        }
    }

    private void oddsRefused() {
        oddsNoSuch(edges.of(13, "-1;").standard());
        oddsOutside(edges.of(13, "-2;").standard());
        Asked x = edges.of(13, Edges.REFUSED).standard();
        oddsNoSuch(x);
        oddsOutside(x);
        x.due(-3).odds(0, 3, 0, 1);
        x.isStandard();
    }

    private void oddsFirstThatFits() {
        Asked x = edges.of(13, Edges.FIRST_THAT_FITS).standard();
        x.due(-1).odds(4, 4, 0, 1);
        x.due(-1).odds(4, 0, 5, 0);
        x.due(-1).odds(0, -1, 9, 17);
        x.due(-2).odds(0, 0, 4, 1);
        x.due(-2).odds(0, 0, 0, 0);
        x.due(-2).odds(0, 3, 0, 17);
        x.due(-2).odds(0, 3, 5, 1);
        x.isStandard();
    }

    private static void wins(Asked x, int above, int below, int like, int what, int k) {
        x.due(above).wins(0, 1, what, k, 0);
        x.due(below).wins(0, 1, what, k, 1);
        x.due(like).wins(0, 1, what, k, 2);
    }

    private void winsSides() {
        Asked x = edges.of(14, "Over those QUESTIONS how often the first is above the second (which 0), "
                + "below (1), like (2).");
        tell(x, 0, 0, true);
        tell(x, 1, 0, false);
        wins(x, 1, 0, 0, 0, 1);
        tell(x, 0, 1, false);
        tell(x, 1, 1, true);
        wins(x, 1, 1, 0, 0, 1);
        tell(x, 0, 2, false);
        tell(x, 1, 2, false);
        wins(x, 1, 1, 1, 0, 1);
        for (int question = 3; question < 8; question++) {
            tell(x, 0, question, true);
            tell(x, 1, question, false);
        }
        wins(x, 6, 1, 1, 0, 1);
        x.due(1).wins(1, 0, 0, 1, 0);
        x.due(6).wins(1, 0, 0, 1, 1);
        x.due(1).wins(1, 0, 0, 1, 2);
        tell(x, 1, 1, false);
        tell(x, 0, 1, true);
        tell(x, 0, 2, true);
        wins(x, 8, 0, 0, 0, 1);
        x.board(0, 1);
    }

    private void winsCorners() {
        Asked x = edges.of(14, Edges.NUMBERS);
        tell(x, 0, 0, true);
        tell(x, 3, 0, false);
        tell(x, 0, 7, true);
        tell(x, 3, 7, false);
        x.due(2).wins(0, 3, 0, 1, 0);
        x.due(2).wins(3, 0, 0, 1, 1);
        x.due(-3).wins(0, 2, 0, 1, 0);
        x.due(-1).wins(0, 4, 0, 1, 0);
        x.due(-1).wins(-1, 3, 0, 1, 0);
    }

    private void winsDepths() {
        Asked x = edges.of(14, Edges.DEPTHS);
        x.grade(0, 15, 1);
        x.rowRange(0, 0, 0, 16);
        x.row(1, 0);
        wins(x, 0, 0, 1, 0, 1);
        wins(x, 0, 0, 1, 0, 15);
        wins(x, 1, 0, 0, 0, 16);
        x.due(-2).wins(0, 1, 0, 0, 0);
        x.due(-2).wins(0, 1, 0, 17, 0);
    }

    /** SURE: 1 of 2 is like 2 of 4; 2 of 3 is above 1 of 2. */
    private void winsOfLikeFractions() {
        Asked x = edges.of(14, "below (1), like (2).");
        x.grades(0, 1, 0, 1, 0, 1);
        x.row(0, 0, 0, 1);
        x.row(1, 0, 0, 1, 2, 3);
        wins(x, 0, 0, 1, 8, 16);
        x.row(0, 0, 0, 1, 2);
        wins(x, 1, 0, 0, 8, 16);
        x.row(0, 0);
        x.row(1, 0, 1, 3);
        wins(x, 0, 0, 1, 8, 16);
    }

    private void winsDividedByZero() {
        Asked x = edges.of(14, Edges.DIVIDED_BY_ZERO);
        x.grades(0, 1, 0);
        x.row(0, 0, 5, 6);
        x.row(1, 0, 1);
        wins(x, 0, 0, 1, 8, 16);
        x.row(1, 0, 0);
        wins(x, 0, 1, 0, 8, 16);
    }

    private void winsOfWhichMeasures() {
        Asked x = edges.of(14, "ODDS of two RANKERS by a MEASURE (but 4, 5)");
        tell(x, 0, 0, true);
        tell(x, 1, 0, false);
        for (int what : WITH_MEAN) {
            wins(x, what == 7 ? 0 : 1, what == 7 ? 1 : 0, 0, what, 1);
        }
        for (int which = 0; which < 3; which++) {
            x.due(-2).wins(0, 1, 4, 1, which);
            x.due(-2).wins(0, 1, 5, 1, which);
        }
    }

    private void winsOfWhatCounts() {
        Asked x = edges.of(14, "over the QUESTIONS that count for both, n of them,");
        tell(x, 0, 0, true);
        tell(x, 1, 0, false);
        tell(x, 0, 1, true);
        tell(x, 1, 2, true);
        wins(x, 1, 0, 0, 0, 1);
        x.empty(1, 1);
        wins(x, 2, 0, 0, 0, 1);
        x.empty(0, 2);
        wins(x, 2, 1, 0, 0, 1);
        x.grade(2, 0, 0);
        wins(x, 2, 0, 0, 0, 1);
        x.drop(0, 0);
        wins(x, 1, 0, 0, 0, 1);
    }

    private void winsOfNone() {
        Asked x = edges.of(14, "-3.");
        for (int which = 0; which < 3; which++) {
            x.due(-3).wins(0, 1, 0, 1, which);
        }
        tell(x, 0, 0, true);
        for (int which = 0; which < 3; which++) {
            x.due(-3).wins(0, 0, 0, 1, which);
            x.due(-3).wins(0, 1, 0, 1, which);
        }
        tell(x, 1, 1, true);
        x.due(-3).wins(0, 1, 0, 1, 2);
        x.row(1, 0, 0);
        x.due(1).wins(0, 1, 0, 1, 2);
        x.grade(0, 0, 0);
        x.due(-3).wins(0, 1, 0, 1, 2);
    }

    private static void winsNoSuch(Asked x) {
        for (int ranker : Edges.NO_RANKER) {
            x.due(-1).wins(ranker, 0, 0, 1, 0);
            x.due(-1).wins(0, ranker, 0, 1, 1);
            x.due(-1).wins(ranker, ranker, 0, 1, 2);
        }
    }

    private static void winsOutside(Asked x) {
        for (int what : WITHOUT_MEAN) {
            x.due(-2).wins(0, 1, what, 1, 0);
        }
        for (int k : Edges.NO_DEPTH) {
            for (int what : WITH_MEAN) {
                x.due(-2).wins(0, 1, what, k, 0);
            }
        }
        for (int which : NO_SIDE) {
            x.due(-2).wins(0, 1, 0, 1, which);
        }
    }

    private void winsRefused() {
        winsNoSuch(edges.of(14, "-1;").standard());
        winsOutside(edges.of(14, "-2;").standard());
        Asked x = edges.of(14, Edges.REFUSED).standard();
        winsNoSuch(x);
        winsOutside(x);
        x.due(-3).wins(0, 3, 0, 1, 0);
        x.isStandard();
    }

    private void winsFirstThatFits() {
        Asked x = edges.of(14, Edges.FIRST_THAT_FITS).standard();
        x.due(-1).wins(4, 4, 0, 1, 3);
        x.due(-1).wins(4, 0, 0, 1, 3);
        x.due(-1).wins(0, -1, 0, 1, -1);
        x.due(-1).wins(0, 4, 5, 0, 0);
        x.due(-2).wins(0, 0, 4, 1, 0);
        x.due(-2).wins(0, 0, 0, 0, 0);
        x.due(-2).wins(0, 0, 0, 1, 3);
        x.due(-2).wins(0, 3, 0, 1, -1);
        x.due(-2).wins(0, 3, 5, 1, 0);
        x.isStandard();
    }
}
