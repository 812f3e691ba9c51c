/** Boundary cases of promises 15 to 17: how like two rows are, and the pool. */
final class EdgesOfRows {
    private final Edges edges;

    EdgesOfRows(Edges edges) {
        this.edges = edges;
    }

    void tryAll() {
        likenessOfNoTwo();
        likenessOfOneTwo();
        likenessOfFullRows();
        likenessCorners();
        likenessOfOneRow();
        likenessRefused();
        overlapSum();
        overlapDepths();
        overlapOfShortRows();
        overlapCorners();
        overlapRefused();
        overlapFirstThatFits();
        poolByNumbers();
        poolOfAnyRow();
        poolDepths();
        poolWithoutGrade();
        poolCorners();
        poolNotSoMany();
        poolRefused();
        poolFirstThatFits();
    }

    private static void likeness(Asked x, int twos, long top, long bottom, int one, int other) {
        x.due(twos).likeness(one, other, 0);
        x.board(top, bottom);
    }

    private void likenessOfNoTwo() {
        Asked x = edges.of(15, "by all (0: no two).");
        x.row(0, 0, 1, 2, 3);
        x.row(1, 0, 3, 4, 5);
        x.row(2, 0, 6);
        x.row(3, 0);
        likeness(x, 3, 1, 1, 0, 0);
        likeness(x, 0, 0, 1, 0, 1);
        likeness(x, 3, 1, 1, 0, 0);
        likeness(x, 0, 0, 1, 0, 2);
        likeness(x, 0, 0, 1, 2, 2);
        likeness(x, 3, 1, 1, 0, 0);
        likeness(x, 0, 0, 1, 0, 3);
        likeness(x, 0, 0, 1, 3, 0);
        likeness(x, 0, 0, 1, 3, 3);
    }

    private void likenessOfOneTwo() {
        Asked x = edges.of(15, "LIKENESS of two ROWS of a QUESTION: of all two DOCUMENTS that are in "
                + "both, those that stand alike less those that do not,");
        x.row(0, 0, 0, 23);
        x.row(1, 0, 23, 5, 0);
        x.row(2, 0, 7, 0, 8, 23);
        likeness(x, 1, -1, 1, 0, 1);
        likeness(x, 1, -1, 1, 1, 0);
        likeness(x, 1, 1, 1, 0, 2);
        likeness(x, 1, -1, 1, 1, 2);
        x.row(0, 0, 1, 2, 3, 4);
        x.row(1, 0, 2, 1, 4, 3);
        likeness(x, 6, 1, 3, 0, 1);
        x.row(1, 0, 3, 4, 1, 2);
        likeness(x, 6, -1, 3, 0, 1);
        x.row(1, 0, 3, 2, 1);
        likeness(x, 3, -1, 1, 0, 1);
        x.row(1, 0, 1, 4, 3, 2);
        likeness(x, 6, 0, 1, 0, 1);
    }

    private void likenessOfFullRows() {
        Asked x = edges.of(15, "THE BOARD shows LIKENESS: how many two's.");
        x.rowRange(0, 0, 0, 16);
        for (int document = 15; document >= 0; document--) {
            x.rank(1, 0, document);
        }
        likeness(x, 120, 1, 1, 0, 0);
        likeness(x, 120, -1, 1, 0, 1);
        x.rowRange(2, 0, 8, 24);
        likeness(x, 28, 1, 1, 0, 2);
        x.row(3, 0, 15, 0, 1, 2, 3, 4, 5, 6, 7, 8, 9, 10, 11, 12, 13, 14);
        likeness(x, 120, 3, 4, 0, 3);
    }

    private void likenessCorners() {
        Asked x = edges.of(15, Edges.NUMBERS);
        x.row(0, 7, 1, 2);
        x.row(3, 7, 2, 1);
        x.row(0, 0, 1, 2);
        x.row(3, 0, 1, 2);
        x.due(1).likeness(0, 3, 7);
        x.board(-1, 1);
        x.due(1).likeness(3, 0, 0);
        x.board(1, 1);
        x.due(-1).likeness(0, 3, 6);
    }

    /** No refusal but -1 is told: two rankers may be one. */
    private void likenessOfOneRow() {
        Asked x = edges.of(15, "LIKENESS of two ROWS of a QUESTION").standard();
        likeness(x, 3, 1, 1, 0, 0);
        likeness(x, 120, 1, 1, 1, 1);
        likeness(x, 0, 0, 1, 2, 2);
        x.due(-1).likeness(3, 3, 0);
    }

    private static void likenessNoSuch(Asked x) {
        for (int question : Edges.NO_QUESTION) {
            x.due(-1).likeness(0, 1, question);
        }
        for (int ranker : Edges.NO_RANKER) {
            x.due(-1).likeness(ranker, 0, 0);
            x.due(-1).likeness(0, ranker, 0);
            x.due(-1).likeness(ranker, ranker, 6);
        }
        x.due(-1).likeness(3, 0, 0);
        x.due(-1).likeness(0, 3, 0);
        x.due(-1).likeness(0, 1, 7);
        x.due(-1).likeness(1, 0, 7);
        x.due(-1).likeness(3, 3, 0);
    }

    private void likenessRefused() {
        likenessNoSuch(edges.of(15, "-1.").standard());
        Asked x = edges.of(15, Edges.REFUSED).standard();
        likenessNoSuch(x);
        x.isStandard();
    }

    private static void overlap(Asked x, long top, long bottom, int one, int other, int k) {
        x.due(1).overlap(one, other, 0, k);
        x.board(top, bottom);
    }

    private void overlapSum() {
        Asked x = edges.of(16, "OVERLAP, k: the sum, over d 1 .. k, of (how many DOCUMENTS are among the "
                + "first d of both, by d), by k.");
        x.row(0, 0, 0, 1, 2);
        x.row(1, 0, 1, 0, 3);
        overlap(x, 0, 1, 0, 1, 1);
        overlap(x, 1, 2, 0, 1, 2);
        overlap(x, 5, 9, 0, 1, 3);
        overlap(x, 5, 9, 1, 0, 3);
        overlap(x, 1, 1, 0, 0, 1);
        overlap(x, 1, 1, 0, 0, 3);
        x.row(1, 0, 3, 4, 5);
        overlap(x, 0, 1, 0, 1, 16);
    }

    private void overlapDepths() {
        Asked x = edges.of(16, "OVERLAP, k: the sum, over d 1 .. k");
        x.rowRange(0, 0, 0, 16);
        for (int document = 15; document >= 0; document--) {
            x.rank(1, 0, document);
        }
        overlap(x, 1, 1, 0, 0, 16);
        overlap(x, 0, 1, 0, 1, 8);
        overlap(x, 2, 81, 0, 1, 9);
        overlap(x, 48595, 144144, 0, 1, 16);
        x.row(2, 0, 15);
        overlap(x, 0, 1, 0, 2, 15);
        overlap(x, 1, 256, 0, 2, 16);
        overlap(x, 1, 256, 2, 0, 16);
        x.due(-2).overlap(0, 1, 0, 0);
        x.due(-2).overlap(0, 1, 0, 17);
    }

    private void overlapOfShortRows() {
        Asked x = edges.of(16, Edges.DEPTHS);
        x.row(0, 0, 7);
        x.row(1, 0, 7);
        x.row(2, 0);
        overlap(x, 1, 1, 0, 1, 1);
        overlap(x, 3, 4, 0, 1, 2);
        overlap(x, 2436559, 11531520, 0, 1, 16);
        overlap(x, 0, 1, 0, 2, 16);
        overlap(x, 0, 1, 2, 0, 1);
        overlap(x, 0, 1, 2, 2, 16);
    }

    private void overlapCorners() {
        Asked x = edges.of(16, Edges.NUMBERS);
        x.row(0, 7, 23);
        x.row(3, 7, 23);
        x.row(0, 0, 23);
        x.row(3, 0, 0);
        x.due(1).overlap(0, 3, 7, 1);
        x.board(1, 1);
        x.due(1).overlap(3, 0, 0, 1);
        x.board(0, 1);
        x.due(-1).overlap(0, 3, 6, 1);
        x = edges.of(16, "THE BOARD shows OVERLAP: 1.").standard();
        x.due(1).overlap(0, 0, 0, 16);
        x.due(1).overlap(0, 2, 0, 16);
        x.board(0, 1);
        x.due(1).overlap(2, 2, 0, 1);
    }

    private static void overlapNoSuch(Asked x) {
        for (int question : Edges.NO_QUESTION) {
            x.due(-1).overlap(0, 1, question, 1);
        }
        for (int ranker : Edges.NO_RANKER) {
            x.due(-1).overlap(ranker, 0, 0, 1);
            x.due(-1).overlap(0, ranker, 0, 1);
            x.due(-1).overlap(ranker, ranker, 6, 1);
        }
        x.due(-1).overlap(3, 0, 0, 1);
        x.due(-1).overlap(0, 3, 0, 1);
        x.due(-1).overlap(0, 1, 7, 1);
        x.due(-1).overlap(1, 0, 7, 1);
        x.due(-1).overlap(3, 3, 0, 1);
    }

    private static void overlapOutside(Asked x) {
        for (int k : Edges.NO_DEPTH) {
            x.due(-2).overlap(0, 1, 0, k);
            x.due(-2).overlap(2, 2, 0, k);
        }
    }

    private void overlapRefused() {
        overlapNoSuch(edges.of(16, "-1;").standard());
        overlapOutside(edges.of(16, "-2.").standard());
        Asked x = edges.of(16, Edges.REFUSED).standard();
        overlapNoSuch(x);
        overlapOutside(x);
        x.isStandard();
    }

    private void overlapFirstThatFits() {
        Asked x = edges.of(16, Edges.FIRST_THAT_FITS).standard();
        x.due(-1).overlap(0, 3, 0, 0);
        x.due(-1).overlap(3, 0, 0, 17);
        x.due(-1).overlap(0, 1, 8, 0);
        x.due(-1).overlap(4, 1, 0, 17);
        x.isStandard();
    }

    private void poolByNumbers() {
        Asked x = edges.of(17, "The i-th DOCUMENT (from 0, by numbers) of a QUESTION's pool:");
        for (int ranker = 0; ranker < 3; ranker++) {
            for (int i = 0; i < 8; i++) {
                x.rank(ranker, 7, 23 - (ranker + 3 * i) % 24);
            }
        }
        for (int i = 0; i < 24; i++) {
            x.due(i).pool(7, 16, i);
        }
        x.due(-3).pool(7, 16, 24);
        for (int i = 0; i < 3; i++) {
            x.due(21 + i).pool(7, 1, i);
        }
        x.due(-3).pool(7, 1, 3);
    }

    private void poolOfAnyRow() {
        Asked x = edges.of(17, "those among the first k of any ROW that have no GRADE.");
        for (int ranker = 0; ranker < 4; ranker++) {
            x.row(ranker, 0, 20 - ranker, 5);
        }
        for (int i = 0; i < 4; i++) {
            x.due(17 + i).pool(0, 1, i);
        }
        x.due(-3).pool(0, 1, 4);
        x.due(5).pool(0, 2, 0);
        x.due(20).pool(0, 2, 4);
        x.due(-3).pool(0, 2, 5);
        x.drop(3, 0);
        x.due(18).pool(0, 1, 0);
        x.empty(2, 0);
        x.due(19).pool(0, 1, 0);
        x.due(-3).pool(0, 1, 2);
    }

    private void poolDepths() {
        Asked x = edges.of(17, Edges.DEPTHS);
        x.rowRange(2, 3, 8, 24);
        x.due(8).pool(3, 1, 0);
        x.due(-3).pool(3, 1, 1);
        x.due(22).pool(3, 15, 14);
        x.due(-3).pool(3, 15, 15);
        x.due(23).pool(3, 16, 15);
        x.due(-3).pool(3, 16, 16);
        x.row(2, 3, 4);
        x.due(4).pool(3, 16, 0);
        x.due(-3).pool(3, 16, 1);
        x.due(-2).pool(3, 0, 0);
        x.due(-2).pool(3, 17, 0);
    }

    private void poolWithoutGrade() {
        Asked x = edges.of(17, "A DOCUMENT has a GRADE 0 .. 3, or none (not JUDGED, as all at first)");
        x.row(0, 0, 6);
        for (int grade = 0; grade <= 3; grade++) {
            x.grade(0, 6, grade);
            x.due(-3).pool(0, 16, 0);
        }
        x.grade(0, 6, -1);
        x.due(6).pool(0, 16, 0);
        x.grade(1, 6, 1);
        x.due(6).pool(0, 16, 0);
    }

    private void poolCorners() {
        Asked x = edges.of(17, Edges.QUESTIONS);
        x.row(0, 0, 3);
        x.row(3, 7, 4);
        x.due(3).pool(0, 1, 0);
        x.due(4).pool(7, 1, 0);
        x.due(-3).pool(1, 1, 0);
        x.due(-3).pool(6, 1, 0);
        x.due(-1).pool(-1, 1, 0);
        x.due(-1).pool(8, 1, 0);
    }

    private void poolNotSoMany() {
        Asked x = edges.of(17, "-3: it has not so many.");
        x.due(-3).pool(0, 1, 0);
        x.empty(0, 0);
        x.due(-3).pool(0, 16, 0);
        x.rank(0, 0, 0);
        x.due(0).pool(0, 16, 0);
        int[] outside = {1, 16, 24, -1, Edges.LEAST, Edges.GREATEST};
        for (int i : outside) {
            x.due(-3).pool(0, 16, i);
        }
        x.grade(0, 0, 0);
        x.due(-3).pool(0, 16, 0);
    }

    private static void poolNoSuch(Asked x) {
        for (int question : Edges.NO_QUESTION) {
            x.due(-1).pool(question, 1, 0);
        }
    }

    private static void poolOutside(Asked x) {
        for (int k : Edges.NO_DEPTH) {
            x.due(-2).pool(0, k, 0);
            x.due(-2).pool(6, k, 0);
        }
    }

    private void poolRefused() {
        poolNoSuch(edges.of(17, "-1;").standard());
        poolOutside(edges.of(17, "-2: k;").standard());
        Asked x = edges.of(17, Edges.REFUSED).standard();
        poolNoSuch(x);
        poolOutside(x);
        x.due(-3).pool(0, 1, 2);
        x.isStandard();
    }

    private void poolFirstThatFits() {
        Asked x = edges.of(17, Edges.FIRST_THAT_FITS).standard();
        x.due(-1).pool(8, 0, 99);
        x.due(-1).pool(-1, 17, -1);
        x.due(-2).pool(0, 0, 99);
        x.due(-2).pool(6, 17, -1);
        x.due(-3).pool(6, 16, 0);
        x.isStandard();
    }
}
