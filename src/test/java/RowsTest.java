/** Promises 15 to 17: how like two rows are, and the pool. */
final class RowsTest {
    private static final Check check = new Check();

    public static void main(String[] args) {
        likeness();
        likenessRefused();
        overlap();
        overlapRefused();
        pool();
        poolRefused();
        check.end();
    }

    private static void likeness() {
        RankBench x = Samples.oneQuestion();
        check.dueBoard("15: fifteen pairs", x, x.likeness(0, 1, 0), 15, 1, 5);
        check.dueBoard("15: turned about", x, x.likeness(1, 0, 0), 15, 1, 5);
        check.dueBoard("15: three pairs", x, x.likeness(0, 2, 0), 3, 1, 3);
        check.dueBoard("15: none in both", x, x.likeness(1, 2, 0), 0, 0, 1);
        check.dueBoard("15: with itself", x, x.likeness(0, 0, 0), 66, 1, 1);
        Samples.tell(x, 0, 7, 1, 2, 3);
        Samples.tell(x, 1, 7, 3, 9, 2, 1);
        check.dueBoard("15: all turned", x, x.likeness(0, 1, 7), 3, -1, 1);
        Samples.tell(x, 2, 7, 2, 3, 1);
        check.dueBoard("15: more turned than alike", x, x.likeness(0, 2, 7), 3, -1, 3);
        Samples.tell(x, 3, 7, 5, 3);
        check.dueBoard("15: one in both is no pair", x, x.likeness(0, 3, 7), 0, 0, 1);
    }

    private static void likenessRefused() {
        RankBench x = Samples.oneQuestion();
        x.likeness(0, 1, 0);
        check.dueBoard("15: one 4", x, x.likeness(4, 1, 0), -1, 1, 5);
        check.dueBoard("15: other -1", x, x.likeness(0, -1, 0), -1, 1, 5);
        check.dueBoard("15: question 8", x, x.likeness(0, 1, 8), -1, 1, 5);
        check.dueBoard("15: the first has no row", x, x.likeness(3, 1, 0), -1, 1, 5);
        check.dueBoard("15: the second has no row", x, x.likeness(0, 3, 0), -1, 1, 5);
        x.empty(3, 0);
        check.dueBoard("15: an empty row is one", x, x.likeness(0, 3, 0), 0, 0, 1);
    }

    private static void overlap() {
        RankBench x = Samples.oneQuestion();
        check.dueBoard("16: at 1", x, x.overlap(0, 1, 0, 1), 1, 0, 1);
        check.dueBoard("16: at 2", x, x.overlap(0, 2, 0, 2), 1, 1, 4);
        check.dueBoard("16: at 6", x, x.overlap(0, 1, 0, 6), 1, 89, 360);
        check.dueBoard("16: behind both ends", x, x.overlap(0, 1, 0, 16), 1, 2186273, 5765760);
        check.dueBoard("16: turned about", x, x.overlap(1, 0, 0, 16), 1, 2186273, 5765760);
        check.dueBoard("16: with itself", x, x.overlap(0, 0, 0, 12), 1, 1, 1);
        check.dueBoard("16: none in both", x, x.overlap(1, 2, 0, 16), 1, 0, 1);
        Samples.tell(x, 0, 3, 7);
        Samples.tell(x, 1, 3, 7);
        check.dueBoard("16: a short row by d", x, x.overlap(0, 1, 3, 2), 1, 3, 4);
    }

    private static void overlapRefused() {
        RankBench x = Samples.oneQuestion();
        x.overlap(0, 1, 0, 6);
        check.dueBoard("16: one -1", x, x.overlap(-1, 1, 0, 1), -1, 89, 360);
        check.dueBoard("16: other 4", x, x.overlap(0, 4, 0, 1), -1, 89, 360);
        check.dueBoard("16: question -1", x, x.overlap(0, 1, -1, 1), -1, 89, 360);
        check.dueBoard("16: the first has no row", x, x.overlap(3, 1, 0, 17), -1, 89, 360);
        check.dueBoard("16: the second has no row", x, x.overlap(0, 3, 0, 1), -1, 89, 360);
        check.dueBoard("16: k 0", x, x.overlap(0, 1, 0, 0), -2, 89, 360);
        check.dueBoard("16: k 17", x, x.overlap(0, 1, 0, 17), -2, 89, 360);
    }

    private static void pool() {
        RankBench x = Samples.oneQuestion();
        check.due("17: by numbers", x.pool(0, 16, 0), 3);
        check.due("17: the next", x.pool(0, 16, 1), 6);
        check.due("17: the last", x.pool(0, 16, 2), 11);
        check.due("17: not so many", x.pool(0, 16, 3), -3);
        check.due("17: among the first 2", x.pool(0, 2, 0), 3);
        check.due("17: no more there", x.pool(0, 2, 1), -3);
        check.due("17: of another row's first 3", x.pool(0, 3, 1), 6);
        check.due("17: none at all", x.pool(0, 1, 0), -3);
        Samples.tell(x, 3, 0, 23, 0);
        check.due("17: of the last ranker", x.pool(0, 1, 0), 23);
        x.grade(0, 3, 0);
        check.due("17: grade 0 is a grade", x.pool(0, 16, 0), 6);
        x.grade(0, 0, -1);
        check.due("17: not judged any more", x.pool(0, 2, 0), 0);
        x.drop(3, 0);
        check.due("17: the row is gone", x.pool(0, 16, 3), -3);
        check.due("17: another question's own", x.pool(1, 16, 0), -3);
    }

    private static void poolRefused() {
        RankBench x = Samples.oneQuestion();
        check.due("17: question -1", x.pool(-1, 1, 0), -1);
        check.due("17: question 8", x.pool(8, 17, 0), -1);
        check.due("17: k 0", x.pool(0, 0, 0), -2);
        check.due("17: k 17", x.pool(0, 17, 99), -2);
        check.due("17: i -1", x.pool(0, 16, -1), -3);
        check.due("17: the greatest", x.pool(0, 16, Integer.MAX_VALUE), -3);
        check.due("17: the least", x.pool(0, 16, Integer.MIN_VALUE), -3);
    }
}
