/** Promises 12 to 14: means, odds and wins over questions. */
final class MeanOddsTest {
    private static final Check check = new Check();

    public static void main(String[] args) {
        whatCounts();
        exactMeans();
        meansRefused();
        oddsByHand();
        oddsOfUnlikeParts();
        exactOdds();
        oddsRefused();
        wins();
        winsRefused();
        check.end();
    }

    /** One good document 0 a question; k 1: a ranker has it first, or not. */
    private static void first(RankBench x, int ranker, int question, boolean good) {
        x.grade(question, 0, 1);
        x.rank(ranker, question, good ? 0 : 1);
    }

    private static void whatCounts() {
        RankBench x = new RankBench();
        first(x, 0, 0, true);
        check.dueBoard("12: one question", x, x.mean(0, 0, 1), 1, 1, 1);
        x.grade(1, 0, 1);
        check.dueBoard("12: no row there", x, x.mean(0, 0, 1), 1, 1, 1);
        x.empty(0, 1);
        check.dueBoard("12: an empty row counts", x, x.mean(0, 0, 1), 2, 1, 2);
        x.rank(0, 7, 3);
        x.grade(7, 3, 0);
        check.dueBoard("12: no good one there", x, x.mean(0, 0, 1), 2, 1, 2);
        x.grade(7, 23, 1);
        check.dueBoard("12: a good one that is not in the row", x, x.mean(0, 0, 1), 3, 1, 3);
        x.drop(0, 1);
        check.dueBoard("12: dropped", x, x.mean(0, 0, 1), 2, 1, 2);
        check.dueBoard("12: not judged, over questions with a good one", x, x.mean(0, 7, 1), 2, 0, 1);
    }

    private static void exactMeans() {
        RankBench x = Samples.eightQuestions();
        check.dueBoard("12: precision", x, x.mean(0, 0, 16), 8, 79, 128);
        check.dueBoard("12: recall", x, x.mean(0, 1, 16), 8, 1950012397L, 2855588736L);
        check.dueBoard("12: average", x, x.mean(0, 2, 16), 8, 8500942095937L, 17590426613760L);
        check.dueBoard("12: average, the other", x, x.mean(1, 2, 7), 8, 83618324627L, 399782423040L);
        check.dueBoard("12: first", x, x.mean(1, 3, 16), 8, 79, 96);
        check.dueBoard("12: preference", x, x.mean(0, 6, 7), 8, 21791188215091L, 79156919761920L);
        check.dueBoard("12: not judged", x, x.mean(0, 7, 16), 8, 0, 1);
        check.dueBoard("12: sure", x, x.mean(0, 8, 7), 8, 37, 56);
    }

    private static void meansRefused() {
        RankBench x = new RankBench();
        first(x, 0, 0, true);
        x.mean(0, 0, 2);
        check.dueBoard("12: ranker -1", x, x.mean(-1, 0, 1), -1, 1, 2);
        check.dueBoard("12: ranker 4", x, x.mean(4, 9, 0), -1, 1, 2);
        check.dueBoard("12: what -1", x, x.mean(0, -1, 1), -2, 1, 2);
        check.dueBoard("12: what 4", x, x.mean(0, 4, 1), -2, 1, 2);
        check.dueBoard("12: what 5", x, x.mean(0, 5, 1), -2, 1, 2);
        check.dueBoard("12: what 9", x, x.mean(0, 9, 1), -2, 1, 2);
        check.dueBoard("12: k 0", x, x.mean(0, 0, 0), -2, 1, 2);
        check.dueBoard("12: k 17", x, x.mean(0, 0, 17), -2, 1, 2);
        check.dueBoard("12: none counts", x, x.mean(1, 0, 1), -3, 1, 2);
        check.dueBoard("12: k before that none counts", x, x.mean(1, 0, 17), -2, 1, 2);
    }

    private static void oddsByHand() {
        RankBench x = new RankBench();
        for (int question = 0; question < 8; question++) {
            first(x, 0, question, true);
            first(x, 1, question, false);
            check.dueBoard("13: all differences 1", x, x.odds(0, 1, 0, 1), question + 1, 1, 1L << question);
            check.dueBoard("13: all differences -1", x, x.odds(1, 0, 0, 1), question + 1, 1, 1L << question);
        }
        x.empty(0, 7);
        check.dueBoard("13: one difference 0", x, x.odds(0, 1, 0, 1), 8, 1, 64);
        x.drop(1, 7);
        check.dueBoard("13: a question less", x, x.odds(0, 1, 0, 1), 7, 1, 64);
        x.empty(1, 6);
        x.rank(1, 6, 0);
        x.empty(0, 6);
        check.dueBoard("13: six against one", x, x.odds(0, 1, 0, 1), 7, 1, 8);
        x.grade(6, 0, -1);
        check.dueBoard("13: no good one there", x, x.odds(0, 1, 0, 1), 6, 1, 32);
    }

    /** Recall at 1 with R 2, 3 and 6: the differences are 1/2, 1/3 and -1/6. */
    private static void oddsOfUnlikeParts() {
        RankBench x = new RankBench();
        int[] goodOnes = {2, 3, 6};
        for (int question = 0; question < 3; question++) {
            for (int document = 0; document < goodOnes[question]; document++) {
                x.grade(question, document, 2);
            }
            x.rank(question == 2 ? 1 : 0, question, 0);
            x.empty(question == 2 ? 0 : 1, question);
        }
        check.dueBoard("13: 1/2, 1/3, -1/6", x, x.odds(0, 1, 1, 1), 3, 1, 2);
        check.due("14: two above", x.wins(0, 1, 1, 1, 0), 2);
        check.due("14: one below", x.wins(0, 1, 1, 1, 1), 1);
    }

    private static void exactOdds() {
        RankBench x = Samples.eightQuestions();
        check.dueBoard("13: average", x, x.odds(0, 1, 2, 16), 8, 9, 32);
        check.dueBoard("13: average at 7", x, x.odds(0, 1, 2, 7), 8, 3, 16);
        check.dueBoard("13: recall", x, x.odds(0, 1, 1, 16), 8, 1, 4);
        check.dueBoard("13: first", x, x.odds(0, 1, 3, 7), 8, 1, 1);
        check.dueBoard("13: preference", x, x.odds(0, 1, 6, 7), 8, 23, 64);
        check.dueBoard("13: turned about", x, x.odds(1, 0, 6, 7), 8, 23, 64);
        check.dueBoard("13: no difference", x, x.odds(0, 1, 7, 16), 8, 1, 1);
        check.dueBoard("13: sure", x, x.odds(0, 1, 8, 16), 8, 1, 2);
    }

    private static void oddsRefused() {
        RankBench x = Samples.eightQuestions();
        x.odds(0, 1, 2, 7);
        check.dueBoard("13: one -1", x, x.odds(-1, 1, 0, 1), -1, 3, 16);
        check.dueBoard("13: one 4", x, x.odds(4, 1, 0, 1), -1, 3, 16);
        check.dueBoard("13: other -1", x, x.odds(0, -1, 0, 1), -1, 3, 16);
        check.dueBoard("13: other 4", x, x.odds(0, 4, 9, 0), -1, 3, 16);
        check.dueBoard("13: both are no ranker", x, x.odds(4, 4, 0, 1), -1, 3, 16);
        check.dueBoard("13: what 4", x, x.odds(0, 1, 4, 1), -2, 3, 16);
        check.dueBoard("13: what 5", x, x.odds(0, 1, 5, 1), -2, 3, 16);
        check.dueBoard("13: what 9", x, x.odds(0, 1, 9, 1), -2, 3, 16);
        check.dueBoard("13: what -1", x, x.odds(0, 1, -1, 1), -2, 3, 16);
        check.dueBoard("13: k 0", x, x.odds(0, 0, 0, 0), -2, 3, 16);
        check.dueBoard("13: k 17", x, x.odds(0, 1, 0, 17), -2, 3, 16);
        check.dueBoard("13: both are one", x, x.odds(0, 0, 0, 1), -3, 3, 16);
        check.dueBoard("13: none counts for both", x, x.odds(0, 2, 0, 1), -3, 3, 16);
    }

    private static void wins() {
        RankBench x = Samples.eightQuestions();
        int[][] due = {{3, 1, 4}, {3, 1, 4}, {4, 3, 1}, {1, 1, 6}, null, null, {3, 4, 1}, {0, 0, 8}, {3, 1, 4}};
        for (int what = 0; what <= 8; what++) {
            for (int which = 0; which < 3 && due[what] != null; which++) {
                check.due("14: " + what + ", " + which, x.wins(0, 1, what, 16, which), due[what][which]);
            }
        }
        check.due("14: turned about, above", x.wins(1, 0, 2, 16, 0), 3);
        check.due("14: turned about, below", x.wins(1, 0, 2, 16, 1), 4);
        check.due("14: nothing is shown", x.bottom(), 1);
    }

    private static void winsRefused() {
        RankBench x = Samples.eightQuestions();
        check.due("14: one -1", x.wins(-1, 1, 0, 1, 0), -1);
        check.due("14: other 4", x.wins(0, 4, 0, 1, 3), -1);
        check.due("14: what 4", x.wins(0, 1, 4, 1, 0), -2);
        check.due("14: what 5", x.wins(0, 1, 5, 1, 0), -2);
        check.due("14: what 9", x.wins(0, 1, 9, 1, 0), -2);
        check.due("14: k 0", x.wins(0, 1, 0, 0, 0), -2);
        check.due("14: k 17", x.wins(0, 1, 0, 17, 0), -2);
        check.due("14: which -1", x.wins(0, 1, 0, 1, -1), -2);
        check.due("14: which 3", x.wins(0, 1, 0, 1, 3), -2);
        check.due("14: which before that both are one", x.wins(0, 0, 0, 1, 3), -2);
        check.due("14: both are one", x.wins(0, 0, 0, 1, 2), -3);
        check.due("14: none counts for both", x.wins(0, 2, 0, 1, 2), -3);
    }
}
