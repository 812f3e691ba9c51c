/** Benches that several tests ask. */
final class Samples {
    private static final int[] GRADES = {3, 0, 2, -1, 1, 0, -1, 3, 1, 0, 2, -1};
    private static final int[] LONG_ROW = {5, 3, 7, 1, 4, 0, 9, 8, 11, 2, 10, 6};
    private static final int[] BEST_ROW = {0, 7, 2, 10, 4, 8};
    private static final int[] ROW_WITHOUT_GOOD = {1, 3, 6};
    private static final int[] GOOD_ONES = {23, 19, 17, 13, 11, 16, 9, 7};

    private Samples() {
    }

    /** Question 0: six good ones, three with grade 0, and rows of rankers 0, 1 and 2. */
    static RankBench oneQuestion() {
        RankBench x = new RankBench();
        for (int document = 0; document < GRADES.length; document++) {
            x.grade(0, document, GRADES[document]);
        }
        tell(x, 0, 0, LONG_ROW);
        tell(x, 1, 0, BEST_ROW);
        tell(x, 2, 0, ROW_WITHOUT_GOOD);
        return x;
    }

    /** Eight questions whose R have hardly a divisor in common, and full rows of rankers 0 and 1: 448 calls. */
    static RankBench eightQuestions() {
        RankBench x = new RankBench();
        fillEight(x::grade, x::rank);
        return x;
    }

    static void fillEight(Call grade, Call rank) {
        for (int question = 0; question < 8; question++) {
            for (int document = 0; document < 24; document++) {
                grade.ask(question, document, document < GOOD_ONES[question] ? 1 + document % 3 : 0);
            }
            for (int i = 0; i < 16; i++) {
                rank.ask(0, question, (i * 5 + question) % 24);
                rank.ask(1, question, (i * 7 + question + 3) % 24);
            }
        }
    }

    /** A call with three numbers, of a bench or of what stands around one. */
    interface Call {
        int ask(int first, int second, int third);
    }

    static void tell(RankBench x, int ranker, int question, int... documents) {
        for (int document : documents) {
            x.rank(ranker, question, document);
        }
    }
}
