/** Boundary cases of promises 8 to 11: measures, the board, gains by logarithms. */
final class EdgesOfMeasures {
    private static final int PRECISION = 0;
    private static final int RECALL = 1;
    private static final int AVERAGE = 2;
    private static final int FIRST = 3;
    private static final int GAIN = 4;
    private static final int SHARE = 5;
    private static final int PREFERENCE = 6;
    private static final int UNJUDGED = 7;
    private static final int SURE = 8;

    private final Edges edges;

    EdgesOfMeasures(Edges edges) {
        this.edges = edges;
    }

    void tryAll() {
        measureNumbers();
        measureCorners();
        measureDepths();
        measureDividedByZero();
        measureGood();
        precision();
        recall();
        average();
        first();
        gainMeasure();
        share();
        shareIsCut();
        preference();
        preferenceMost();
        preferenceWithoutMost();
        unjudged();
        sure();
        measureRefused();
        measureFirstThatFits();
        board();
        boardLatest();
        boardTop();
        boardBottom();
        gainDepths();
        gainCorners();
        logOfPowers();
        logBits();
        lowAndHigh();
        gainOfGood();
        gainRefused();
    }

    private void measureNumbers() {
        Asked x = edges.of(8, "THE BOARD shows a MEASURE 0 .. 8: 1.").standard();
        for (int what = 0; what <= 8; what++) {
            x.due(1).measure(0, 0, what, 3);
        }
        x.shows(0, 0, PRECISION, 3, 2, 3);
        x.shows(0, 0, SURE, 3, 2, 3);
        x.due(-2).measure(0, 0, -1, 3);
        x.due(-2).measure(0, 0, 9, 3);
        x.board(2, 3);
    }

    private void measureCorners() {
        Asked x = edges.of(8, Edges.QUESTIONS);
        x.grade(0, 0, 1);
        x.grade(7, 23, 1);
        x.row(0, 0, 0);
        x.row(3, 0, 1);
        x.row(0, 7, 22);
        x.row(3, 7, 23);
        x.shows(0, 0, PRECISION, 1, 1, 1);
        x.shows(3, 0, PRECISION, 1, 0, 1);
        x.shows(0, 7, PRECISION, 1, 0, 1);
        x.shows(3, 7, PRECISION, 1, 1, 1);
        x = edges.of(8, Edges.NUMBERS);
        x.grade(0, 0, 1);
        x.grade(1, 1, 1);
        x.row(0, 0, 0, 1);
        x.row(0, 1, 0, 1);
        x.shows(0, 0, FIRST, 16, 1, 1);
        x.shows(0, 1, FIRST, 16, 1, 2);
    }

    /** A good document at rank 16 alone, and a row of one. */
    private void measureDepths() {
        Asked x = edges.of(8, Edges.DEPTHS);
        x.grade(0, 23, 1);
        x.rowRange(0, 0, 8, 24);
        x.shows(0, 0, PRECISION, 16, 1, 16);
        x.shows(0, 0, PRECISION, 15, 0, 1);
        x.shows(0, 0, PRECISION, 1, 0, 1);
        x.row(1, 0, 23);
        x.shows(1, 0, PRECISION, 1, 1, 1);
        for (int what = 1; what < 9; what++) {
            long shown = what == UNJUDGED ? 0 : 1;
            x.shows(1, 0, what, 1, shown, 1);
            x.shows(1, 0, what, 16, shown, 1);
        }
        x.due(-2).measure(0, 0, 0, 0);
        x.due(-2).measure(0, 0, 0, 17);
    }

    private void measureDividedByZero() {
        Asked x = edges.of(8, Edges.DIVIDED_BY_ZERO);
        x.row(0, 0, 0, 1, 2);
        int[] divided = {RECALL, AVERAGE, SHARE, PREFERENCE, SURE};
        for (int what : divided) {
            x.shows(0, 0, UNJUDGED, 16, 3, 1);
            x.shows(0, 0, what, 16, 0, 1);
        }
        x.grade(0, 0, 0);
        for (int what : divided) {
            x.shows(0, 0, UNJUDGED, 16, 2, 1);
            x.shows(0, 0, what, 16, 0, 1);
        }
        x.row(1, 0);
        for (int what = 0; what <= 8; what++) {
            x.shows(0, 0, UNJUDGED, 16, 2, 1);
            x.shows(1, 0, what, 16, 0, 1);
        }
    }

    private void measureGood() {
        Asked x = edges.of(8, "GOOD are those with a GRADE of 1 or more.");
        x.row(0, 0, 0);
        int[] good = {0, 0, 1, 1, 1};
        int[] asked = {PRECISION, RECALL, AVERAGE, FIRST, SHARE, PREFERENCE, SURE};
        for (int grade = -1; grade <= 3; grade++) {
            x.grade(0, 0, grade);
            for (int what : asked) {
                x.shows(0, 0, what, 1, good[grade + 1], 1);
            }
        }
    }

    private void precision() {
        Asked x = edges.of(8, "0 PRECISION: the GOOD ones among these by k.");
        x.grades(0, 1, 0, -1, 3);
        x.row(0, 0, 0);
        x.shows(0, 0, PRECISION, 16, 1, 16);
        x.row(0, 0, 0, 1, 2, 3);
        x.shows(0, 0, PRECISION, 1, 1, 1);
        x.shows(0, 0, PRECISION, 3, 1, 3);
        x.shows(0, 0, PRECISION, 4, 1, 2);
        x.shows(0, 0, PRECISION, 16, 1, 8);
        x.row(0, 0, 1, 2);
        x.shows(0, 0, PRECISION, 16, 0, 1);
    }

    private void recall() {
        Asked x = edges.of(8, "1 RECALL: the GOOD ones among these by R.");
        x.gradeRange(0, 0, 24, 1);
        x.rowRange(0, 0, 0, 16);
        x.shows(0, 0, RECALL, 16, 2, 3);
        x.shows(0, 0, RECALL, 1, 1, 24);
        x.gradeRange(0, 1, 24, 0);
        x.shows(0, 0, RECALL, 1, 1, 1);
        x.gradeRange(0, 0, 1, 0);
        x.shows(0, 0, RECALL, 16, 0, 1);
    }

    private void average() {
        Asked x = edges.of(8, "2 AVERAGE: the sum, over the GOOD ones of the first k, of (how many GOOD "
                + "ones there are up to it, by its rank), by R.");
        x.grade(0, 15, 1);
        x.rowRange(0, 0, 0, 16);
        x.shows(0, 0, AVERAGE, 16, 1, 16);
        x.shows(0, 0, AVERAGE, 15, 0, 1);
        x.grade(0, 0, 1);
        x.shows(0, 0, AVERAGE, 16, 9, 16);
        x.shows(0, 0, AVERAGE, 1, 1, 2);
        x.gradeRange(0, 0, 24, 2);
        x.shows(0, 0, AVERAGE, 16, 2, 3);
        x.shows(0, 0, AVERAGE, 1, 1, 24);
    }

    private void first() {
        Asked x = edges.of(8, "3 FIRST: 1 by the rank of the first GOOD one of these (0: there is none).");
        x.rowRange(0, 0, 0, 16);
        x.shows(0, 0, FIRST, 16, 0, 1);
        for (int rank = 16; rank >= 1; rank--) {
            x.grade(0, rank - 1, 1);
            x.shows(0, 0, FIRST, 16, 1, rank);
            x.shows(0, 0, FIRST, rank, 1, rank);
            if (rank > 1) {
                x.shows(0, 0, FIRST, rank - 1, 0, 1);
            }
        }
        x.row(0, 0, 20);
        x.shows(0, 0, FIRST, 16, 0, 1);
    }

    private void gainMeasure() {
        Asked x = edges.of(8, "4 GAIN: the sum, over the GOOD ones of the first k, of (2^GRADE - 1) by its rank.");
        x.row(0, 0, 23);
        int[] weights = {0, 0, 1, 3, 7};
        for (int grade = -1; grade <= 3; grade++) {
            x.grade(0, 23, grade);
            x.shows(0, 0, GAIN, 1, weights[grade + 1], 1);
        }
        x.rowRange(1, 0, 8, 24);
        x.shows(1, 0, GAIN, 16, 7, 16);
        x.shows(1, 0, GAIN, 15, 0, 1);
        x.gradeRange(0, 8, 24, 3);
        x.shows(1, 0, GAIN, 16, 2436559, 102960);
    }

    private void share() {
        Asked x = edges.of(8, "5 SHARE: GAIN by the GAIN of the best ROW, which has all GOOD ones by "
                + "falling GRADES (its first k).");
        x.grades(0, 1, 3, 0, 2);
        x.row(0, 0, 0, 1);
        x.shows(0, 0, SHARE, 1, 1, 7);
        x.shows(0, 0, SHARE, 2, 9, 17);
        x.shows(0, 0, SHARE, 16, 27, 53);
        x.row(1, 0, 1, 3, 0);
        x.shows(1, 0, SHARE, 1, 1, 1);
        x.shows(1, 0, SHARE, 16, 1, 1);
        x.row(2, 0, 2);
        x.shows(2, 0, SHARE, 16, 0, 1);
        x.row(2, 0, 2, 23, 1);
        x.shows(2, 0, SHARE, 2, 0, 1);
        x.shows(2, 0, SHARE, 3, 14, 53);
        x.gradeRange(0, 0, 4, 0);
        x.shows(2, 0, SHARE, 3, 0, 1);
    }

    /** All 24 are good: the best row would go on behind rank 16, and behind k. */
    private void shareIsCut() {
        Asked x = edges.of(8, "(its first k)");
        x.gradeRange(0, 0, 24, 1);
        x.rowRange(0, 0, 0, 16);
        for (int k = 1; k <= 16; k++) {
            x.shows(0, 0, SHARE, k, 1, 1);
        }
        x.gradeRange(0, 16, 24, 3);
        x.shows(0, 0, SHARE, 1, 1, 7);
        x.shows(0, 0, SHARE, 8, 1, 7);
        x.shows(0, 0, SHARE, 9, 7129, 48223);
    }

    private void preference() {
        Asked x = edges.of(8, "6 PREFERENCE: the sum, over the GOOD ones of the first k, of (1 less (how "
                + "many of GRADE 0 are before it, M at most) by M), by R;");
        x.grades(0, 1, 1, 0, 0, 0);
        x.row(0, 0, 0, 1, 2);
        x.shows(0, 0, PREFERENCE, 16, 1, 1);
        x.row(0, 0, 2, 0, 1);
        x.shows(0, 0, PREFERENCE, 1, 0, 1);
        x.shows(0, 0, PREFERENCE, 2, 1, 4);
        x.shows(0, 0, PREFERENCE, 3, 1, 2);
        x.row(0, 0, 2, 3, 0, 1);
        x.shows(0, 0, PREFERENCE, 16, 0, 1);
        x.row(0, 0, 2, 3, 4, 0, 1);
        x.shows(0, 0, PREFERENCE, 16, 0, 1);
        x.row(0, 0, 23, 22, 0, 2);
        x.shows(0, 0, PREFERENCE, 16, 1, 2);
        x.row(0, 0, 0, 2, 3, 4, 1);
        x.shows(0, 0, PREFERENCE, 16, 1, 2);
    }

    private void preferenceMost() {
        Asked x = edges.of(8, "M is the lesser one of R and N;");
        x.grades(0, 1, 0, 0, 0);
        x.row(0, 0, 1, 0);
        x.shows(0, 0, PREFERENCE, 16, 0, 1);
        x.grades(0, 1, 1, 1, 0);
        x.row(0, 0, 0, 3, 1, 2);
        x.shows(0, 0, PREFERENCE, 16, 1, 3);
        x.grades(0, 1, 1, 0, 0);
        x.row(0, 0, 2, 0, 3, 1);
        x.shows(0, 0, PREFERENCE, 16, 1, 4);
        x.gradeRange(0, 0, 12, 1);
        x.gradeRange(0, 12, 24, 0);
        x.row(0, 0, 12, 0);
        x.shows(0, 0, PREFERENCE, 16, 11, 144);
    }

    private void preferenceWithoutMost() {
        Asked x = edges.of(8, "with M 0 each adds 1.");
        x.grades(0, 1, 2, 3);
        x.row(0, 0, 23, 0, 22, 2);
        x.shows(0, 0, PREFERENCE, 16, 2, 3);
        x.shows(0, 0, PREFERENCE, 2, 1, 3);
        x.shows(0, 0, PREFERENCE, 1, 0, 1);
        x.gradeRange(0, 0, 24, 3);
        x.rowRange(0, 0, 0, 16);
        x.shows(0, 0, PREFERENCE, 16, 2, 3);
        x.gradeRange(0, 0, 24, 0);
        x.shows(0, 0, PREFERENCE, 16, 0, 1);
    }

    private void unjudged() {
        Asked x = edges.of(8, "7 UNJUDGED: how many of the first k have no GRADE.");
        x.rowRange(0, 0, 0, 16);
        x.shows(0, 0, UNJUDGED, 16, 16, 1);
        x.shows(0, 0, UNJUDGED, 1, 1, 1);
        x.gradeRange(0, 0, 1, 0);
        x.shows(0, 0, UNJUDGED, 1, 0, 1);
        x.shows(0, 0, UNJUDGED, 16, 15, 1);
        x.gradeRange(0, 1, 16, 3);
        x.shows(0, 0, UNJUDGED, 16, 0, 1);
        x.row(0, 0, 23);
        x.shows(0, 0, UNJUDGED, 16, 1, 1);
        x.row(0, 0);
        x.shows(0, 0, UNJUDGED, 16, 0, 1);
    }

    private void sure() {
        Asked x = edges.of(8, "8 SURE: of the first k, without those that are not JUDGED (the others "
                + "move up), PRECISION at how many are left.");
        x.grades(0, 1, 0, 2);
        x.row(0, 0, 23, 0, 22, 1, 21, 2);
        x.shows(0, 0, SURE, 1, 0, 1);
        x.shows(0, 0, SURE, 2, 1, 1);
        x.shows(0, 0, SURE, 3, 1, 1);
        x.shows(0, 0, SURE, 4, 1, 2);
        x.shows(0, 0, SURE, 5, 1, 2);
        x.shows(0, 0, SURE, 16, 2, 3);
        x.row(0, 0, 1);
        x.shows(0, 0, SURE, 16, 0, 1);
        x.rowRange(0, 0, 8, 24);
        x.shows(0, 0, SURE, 16, 0, 1);
        x.gradeRange(0, 8, 24, 1);
        x.shows(0, 0, SURE, 16, 1, 1);
    }

    private static void measureNoSuch(Asked x) {
        for (int question : Edges.NO_QUESTION) {
            x.due(-1).measure(0, question, 0, 1);
        }
        for (int ranker : Edges.NO_RANKER) {
            x.due(-1).measure(ranker, 0, 0, 1);
            x.due(-1).measure(ranker, 6, 0, 1);
        }
        x.due(-1).measure(3, 0, 0, 1);
        x.due(-1).measure(1, 7, 0, 1);
    }

    private static void measureOutside(Asked x) {
        int[] outside = {-1, 9, Edges.LEAST, Edges.GREATEST};
        for (int what : outside) {
            x.due(-2).measure(0, 0, what, 1);
        }
        for (int k : Edges.NO_DEPTH) {
            for (int what = 0; what <= 8; what++) {
                x.due(-2).measure(0, 0, what, k);
            }
        }
        x.due(-2).measure(2, 0, 0, 0);
    }

    private void measureRefused() {
        measureNoSuch(edges.of(8, "-1;").standard());
        measureOutside(edges.of(8, "-2.").standard());
        Asked x = edges.of(8, Edges.REFUSED).standard();
        measureNoSuch(x);
        measureOutside(x);
        x.isStandard();
    }

    private void measureFirstThatFits() {
        Asked x = edges.of(8, Edges.FIRST_THAT_FITS).standard();
        x.due(-1).measure(3, 0, 9, 1);
        x.due(-1).measure(3, 0, 0, 0);
        x.due(-1).measure(4, 0, -1, 17);
        x.due(-1).measure(0, 8, -1, 17);
        x.isStandard();
    }

    private void board() {
        Asked x = edges.of(9, "(0 / 1 at first)");
        x.due(0).top();
        x.due(-1).measure(0, 0, 0, 1);
        x.due(0).top();
        x = edges.of(10, "(0 / 1 at first)");
        x.due(1).bottom();
        x.due(-1).measure(0, 0, 0, 1);
        x.due(1).bottom();
        x = edges.of(10, "in least numbers (0 / 1 at first)");
        x.gradeRange(0, 0, 8, 1);
        x.rowRange(0, 0, 0, 16);
        x.shows(0, 0, PRECISION, 16, 1, 2);
        x.row(0, 0, 20);
        x.shows(0, 0, PRECISION, 16, 0, 1);
        x.gradeRange(0, 20, 21, 1);
        x.shows(0, 0, PRECISION, 16, 1, 16);
        x.due(1).overlap(0, 0, 0, 1);
        x.board(1, 1);
    }

    private void boardLatest() {
        Asked x = edges.of(9, "THE BOARD shows the fraction that was asked latest, in least numbers (0 / "
                + "1 at first).").standard();
        x.gain(0, 0, 3, true);
        x.wins(0, 1, 0, 3, 0);
        x.pool(0, 16, 0);
        x.laid(0, 1, 0, 5, 0);
        x.clicks(0, 1, 0, 5);
        x.prefer(0, 1, 0, 5, 50);
        x.board(5, 6);
        x.row(2, 0);
        x.row(3, 0);
        x.drop(3, 0);
        x.board(5, 6);
        x.isStandard();
        x.due(2).mean(0, 0, 1);
        x.board(1, 1);
        x.due(1).odds(0, 1, 0, 1);
        x.board(1, 1);
        x.due(1).overlap(0, 1, 0, 3);
        x.board(1, 9);
        x.due(3).likeness(0, 0, 0);
        x.board(1, 1);
    }

    private void boardTop() {
        Asked x = edges.of(9, "Above the line of THE BOARD's fraction.");
        x.row(0, 0, 1, 2, 3);
        x.row(1, 0, 3, 2, 1);
        x.due(3).likeness(0, 1, 0);
        x.due(-1).top();
        x.due(-1).top();
        x.row(1, 0, 2, 3, 1);
        x.likeness(0, 1, 0);
        x.due(-1).top();
        x.row(1, 0, 3);
        x.likeness(0, 1, 0);
        x.due(0).top();
        x = edges.of(9, "Above the line of THE BOARD's fraction.").eightQuestions();
        x.due(8).mean(0, AVERAGE, 16);
        x.due(8500942095937L).top();
    }

    private void boardBottom() {
        Asked x = edges.of(10, "Below it, above 0.");
        x.row(0, 0, 1, 2, 3);
        x.row(1, 0, 3, 2, 1);
        x.likeness(0, 1, 0);
        x.due(1).bottom();
        x.row(1, 0, 2, 3, 1);
        x.likeness(0, 1, 0);
        x.due(3).bottom();
        x.due(3).bottom();
        x.row(1, 0);
        x.likeness(0, 1, 0);
        x.due(1).bottom();
        x.measure(1, 0, SHARE, 16);
        x.due(1).bottom();
        x = edges.of(10, "Below it, above 0.").eightQuestions();
        x.due(8).mean(0, AVERAGE, 16);
        x.due(17590426613760L).bottom();
    }

    private void gainDepths() {
        Asked x = edges.of(11, Edges.DEPTHS);
        x.grade(0, 15, 1);
        x.rowRange(0, 0, 0, 16);
        x.due(0).gain(0, 0, 1, true);
        x.due(0).gain(0, 0, 15, false);
        x.due(0).gain(0, 0, 15, true);
        x.due(256534).gain(0, 0, 16, false);
        x.due(256535).gain(0, 0, 16, true);
        x.row(0, 0, 15);
        x.due(1048575).gain(0, 0, 1, false);
        x.due(1048576).gain(0, 0, 16, true);
        x.row(0, 0);
        x.due(0).gain(0, 0, 16, false);
        x.due(0).gain(0, 0, 16, true);
        x.due(-2).gain(0, 0, 0, true);
        x.due(-2).gain(0, 0, 17, true);
    }

    private void gainCorners() {
        Asked x = edges.of(11, Edges.NUMBERS);
        x.grade(0, 0, 1);
        x.grade(7, 23, 1);
        x.row(0, 0, 0);
        x.row(3, 0, 1);
        x.row(0, 7, 22);
        x.row(3, 7, 23);
        x.due(1048576).gain(0, 0, 1, true);
        x.due(0).gain(3, 0, 1, true);
        x.due(0).gain(0, 7, 1, true);
        x.due(1048576).gain(3, 7, 1, true);
    }

    /** Ranks 1, 3, 7 and 15: f is 1, no bit is set, and HIGH needs no rounding but by 3. */
    private void logOfPowers() {
        Asked x = edges.of(11, "THE LOG of a whole n above 1, in 2^-20: with n = 2^a f, f 1 or more and "
                + "below 2: 2^20 a, and 20 bits, the highest first:");
        int[] ranks = {1, 3, 7, 15};
        long[] low = {1048575, 524287, 349525, 262143};
        long[] high = {1048576, 524288, 349526, 262144};
        x.rowRange(0, 0, 0, 16);
        for (int i = 0; i < ranks.length; i++) {
            x.grade(0, ranks[i] - 1, 1);
            x.due(low[i]).gain(0, 0, 16, false);
            x.due(high[i]).gain(0, 0, 16, true);
            x.grade(0, ranks[i] - 1, -1);
        }
    }

    private void logBits() {
        Asked x = edges.of(11, "f becomes f f; the bit is 1, if that is 2 or more (then f is halved), "
                + "else 0; f is kept in 2^-30, rounded down.");
        int[] ranks = {2, 4, 5, 6, 8, 9, 10, 11, 12, 13, 14, 16};
        long[] low = {661577, 451596, 405644, 373510, 330788, 315652, 303106, 292492, 283365, 275407, 268391, 256534};
        long[] high = {661579, 451598, 405645, 373511, 330789, 315653, 303107, 292493, 283366, 275409, 268392, 256535};
        x.rowRange(0, 0, 0, 16);
        for (int i = 0; i < ranks.length; i++) {
            x.grade(0, ranks[i] - 1, 1);
            x.due(low[i]).gain(0, 0, 16, false);
            x.due(high[i]).gain(0, 0, 16, true);
            x.grade(0, ranks[i] - 1, -1);
        }
    }

    private void lowAndHigh() {
        Asked x = edges.of(11, "LOW of a ROW: the sum, over the GOOD ones of the first k, of (2^GRADE - "
                + "1) 2^40 by (THE LOG of its rank and 1, and 1), each rounded down;");
        x.rowRange(0, 0, 0, 16);
        x.grades(0, -1, 1, -1, -1, 1);
        x.due(1067221).gain(0, 0, 16, false);
        x.gradeRange(0, 0, 16, 3);
        x.due(44818202).gain(0, 0, 16, false);
        x = edges.of(11, "HIGH: of (2^GRADE - 1) 2^40 by THE LOG of its rank and 1, each rounded up.");
        x.rowRange(0, 0, 0, 16);
        x.grades(0, -1, 1, -1, -1, 1);
        x.due(1067224).gain(0, 0, 16, true);
        x.gradeRange(0, 0, 16, 3);
        x.due(44818236).gain(0, 0, 16, true);
        x = edges.of(11, "LOW (HIGH).");
        x.grade(0, 0, 1);
        x.row(0, 0, 0);
        x.due(1048575).gain(0, 0, 1, false);
        x.due(1048576).gain(0, 0, 1, true);
    }

    private void gainOfGood() {
        Asked x = edges.of(11, "GOOD are those with a GRADE of 1 or more.");
        x.row(0, 0, 0);
        long[] low = {0, 0, 1048575, 3145725, 7340025};
        long[] high = {0, 0, 1048576, 3145728, 7340032};
        for (int grade = -1; grade <= 3; grade++) {
            x.grade(0, 0, grade);
            x.due(low[grade + 1]).gain(0, 0, 1, false);
            x.due(high[grade + 1]).gain(0, 0, 1, true);
        }
    }

    private static void gainNoSuch(Asked x) {
        for (int question : Edges.NO_QUESTION) {
            x.due(-1).gain(0, question, 1, false);
            x.due(-1).gain(0, question, 1, true);
        }
        for (int ranker : Edges.NO_RANKER) {
            x.due(-1).gain(ranker, 0, 1, false);
            x.due(-1).gain(ranker, 6, 1, true);
        }
        x.due(-1).gain(3, 0, 1, true);
        x.due(-1).gain(1, 7, 1, false);
        x.due(-1).gain(3, 0, 0, true);
    }

    private static void gainOutside(Asked x) {
        for (int k : Edges.NO_DEPTH) {
            x.due(-2).gain(0, 0, k, false);
            x.due(-2).gain(2, 0, k, true);
        }
    }

    private void gainRefused() {
        gainNoSuch(edges.of(11, "-1;").standard());
        gainOutside(edges.of(11, "-2.").standard());
        Asked x = edges.of(11, Edges.REFUSED).standard();
        gainNoSuch(x);
        gainOutside(x);
        x.isStandard();
    }
}
