/** Boundary cases of promises 1 to 7: a new object, grades, rows, counts. */
final class EdgesOfState {
    private final Edges edges;

    EdgesOfState(Edges edges) {
        this.edges = edges;
    }

    void tryAll() {
        newObject();
        newObjectIsItsOwn();
        newObjectHasNoGrade();
        newObjectShowsZero();
        lastCall();
        lastAskingCall();
        gradeBefore();
        gradeCorners();
        gradeOfEachQuestion();
        gradeRefused();
        gradeFirstThatFits();
        rankBegins();
        rankCorners();
        rankSixteen();
        rankIsThere();
        rankNoRoom();
        rankRefused();
        rankFirstThatFits();
        emptied();
        emptiedKeepsOthers();
        emptyRefused();
        dropped();
        droppedKeepsOthers();
        dropRefused();
        atRanks();
        atNoRow();
        atNoRank();
        atRefused();
        counts();
        countsGood();
        countsRows();
        countRefused();
    }

    private void newObject() {
        Asked x = edges.of(1, "No GRADES, no ROWS.");
        for (int question = 0; question < 8; question++) {
            for (int what = 0; what < 3; what++) {
                x.due(0).count(question, what);
            }
            x.due(-3).pool(question, 16, 0);
            for (int ranker = 0; ranker < 4; ranker++) {
                x.due(-1).at(ranker, question, 1);
                x.due(-1).drop(ranker, question);
            }
        }
        for (int ranker = 0; ranker < 4; ranker++) {
            x.due(-3).mean(ranker, 0, 1);
        }
    }

    private void newObjectIsItsOwn() {
        Asked before = edges.of(1, "No GRADES, no ROWS.").standard();
        Asked x = new Asked(edges);
        x.due(0).count(0, 0);
        x.due(0).count(0, 2);
        x.due(-1).at(1, 0, 1);
        x.board(0, 1);
        x.row(3, 0, 5);
        x.grade(0, 0, 0);
        before.isStandard();
    }

    private void newObjectHasNoGrade() {
        Asked x = edges.of(1, "or none (not JUDGED, as all at first)");
        for (int question = 0; question < 8; question++) {
            for (int document = 0; document < 24; document++) {
                x.due(9).grade(question, document, -1);
            }
        }
    }

    private void newObjectShowsZero() {
        edges.of(1, "(0 / 1 at first)").board(0, 1);
    }

    /** As many documents as all rows have room for, by the last call that is promised. */
    private void lastCall() {
        Asked x = edges.of(1, "An object is used for at most 512 calls after it has been made; what "
                + "later calls answer is free.");
        for (int i = 0; i < 16; i++) {
            for (int question = 0; question < 8; question++) {
                for (int ranker = 0; ranker < 4; ranker++) {
                    x.due(i + 1).rank(ranker, question, 23 - i);
                }
            }
        }
        edges.due("calls left", x.callsLeft(), 0);
    }

    private void lastAskingCall() {
        Asked x = edges.of(8, "An object is used for at most 512 calls after it has been made");
        x.standard();
        int calls = x.callsLeft() - 3;
        for (int i = 0; i < calls; i++) {
            x.due(1).measure(0, 0, i % 9, 1 + i % 16);
        }
        x.shows(0, 0, 2, 16, 5, 6);
        edges.due("calls left", x.callsLeft(), 0);
    }

    private void gradeBefore() {
        Asked x = edges.of(2, "A DOCUMENT's GRADE becomes 0 .. 3, or none (-1): the one before, and 10.");
        int before = -1;
        for (int from = -1; from <= 3; from++) {
            for (int to = -1; to <= 3; to++) {
                x.due(10 + before).grade(0, 0, from);
                x.due(10 + from).grade(0, 0, to);
                before = to;
            }
        }
    }

    private void gradeCorners() {
        Asked x = edges.of(2, Edges.NUMBERS);
        int[] questions = {0, 7};
        int[] documents = {0, 23};
        for (int question : questions) {
            for (int document : documents) {
                x.due(9).grade(question, document, 3);
                x.due(13).grade(question, document, 3);
            }
        }
        for (int question : Edges.NO_QUESTION) {
            x.due(-1).grade(question, 0, 3);
        }
        for (int document : Edges.NO_DOCUMENT) {
            x.due(-1).grade(0, document, 3);
        }
    }

    private void gradeOfEachQuestion() {
        Asked x = edges.of(2, "(of each QUESTION its own)");
        for (int question = 0; question < 8; question++) {
            x.due(9).grade(question, 5, question % 4);
        }
        for (int question = 0; question < 8; question++) {
            x.due(10 + question % 4).grade(question, 5, -1);
            x.due(9).grade(question, 4, -1);
            x.due(9).grade(question, 6, -1);
        }
    }

    private static void gradeNoSuch(Asked x) {
        for (int question : Edges.NO_QUESTION) {
            x.due(-1).grade(question, 0, 2);
            x.due(-1).grade(question, 23, -1);
        }
        for (int document : Edges.NO_DOCUMENT) {
            x.due(-1).grade(0, document, 2);
            x.due(-1).grade(7, document, 2);
        }
    }

    private static void gradeOutside(Asked x) {
        int[] outside = {-2, 4, Edges.LEAST, Edges.GREATEST};
        for (int grade : outside) {
            x.due(-2).grade(0, 0, grade);
            x.due(-2).grade(7, 23, grade);
        }
    }

    private void gradeRefused() {
        gradeNoSuch(edges.of(2, "-1;"));
        gradeOutside(edges.of(2, "-2."));
        Asked x = edges.of(2, Edges.REFUSED).standard();
        gradeNoSuch(x);
        gradeOutside(x);
        x.isStandard();
    }

    private void gradeFirstThatFits() {
        Asked x = edges.of(2, Edges.FIRST_THAT_FITS).standard();
        x.due(-1).grade(8, 0, 4);
        x.due(-1).grade(0, 24, -2);
        x.due(-1).grade(-1, -1, -2);
        x.isStandard();
    }

    private void rankBegins() {
        Asked x = edges.of(3, "A DOCUMENT comes behind a RANKER's ROW (which begins with it): how many it has.");
        x.due(1).rank(0, 0, 7);
        x.due(2).rank(0, 0, 6);
        x.due(7).at(0, 0, 1);
        x.due(6).at(0, 0, 2);
        x.empty(1, 0);
        x.due(1).rank(1, 0, 7);
        x.drop(0, 0);
        x.due(1).rank(0, 0, 6);
        x.due(6).at(0, 0, 1);
        x.due(-2).at(0, 0, 2);
        x.due(2).count(0, 2);
    }

    private void rankCorners() {
        Asked x = edges.of(3, Edges.NUMBERS);
        int[] questions = {0, 7};
        int[] rankers = {0, 3};
        for (int question : questions) {
            for (int ranker : rankers) {
                x.due(1).rank(ranker, question, 0);
                x.due(2).rank(ranker, question, 23);
                x.due(0).at(ranker, question, 1);
                x.due(23).at(ranker, question, 2);
            }
        }
    }

    private void rankSixteen() {
        Asked x = edges.of(3, "A RANKER has a ROW for a QUESTION: DOCUMENTS in order, each once, 16 at "
                + "most; ranks count from 1.");
        for (int i = 1; i <= 16; i++) {
            x.due(i).rank(2, 5, 24 - i);
        }
        x.due(-4).rank(2, 5, 0);
        for (int rank = 1; rank <= 16; rank++) {
            x.due(24 - rank).at(2, 5, rank);
        }
        x.due(-2).at(2, 5, 0);
        x.due(-2).at(2, 5, 17);
    }

    private void rankIsThere() {
        Asked x = edges.of(3, "-3: it is there;");
        x.due(1).rank(0, 0, 0);
        x.due(-3).rank(0, 0, 0);
        x.due(2).rank(0, 0, 9);
        x.due(-3).rank(0, 0, 0);
        x.due(-3).rank(0, 0, 9);
        x.due(-2).at(0, 0, 3);
        x.due(1).rank(1, 0, 9);
        x.due(1).rank(0, 1, 9);
        x.empty(0, 0);
        x.due(1).rank(0, 0, 9);
    }

    private void rankNoRoom() {
        Asked x = edges.of(3, "-4: there are 16.");
        for (int document = 0; document < 15; document++) {
            x.rank(0, 0, document);
        }
        x.due(16).rank(0, 0, 15);
        for (int document = 16; document < 24; document++) {
            x.due(-4).rank(0, 0, document);
        }
        x.due(15).at(0, 0, 16);
        x.due(-2).at(0, 0, 17);
        x.due(1).rank(1, 0, 16);
        x.due(16).empty(0, 0);
        x.due(1).rank(0, 0, 16);
    }

    private static void rankNoSuch(Asked x) {
        for (int question : Edges.NO_QUESTION) {
            x.due(-1).rank(0, question, 20);
        }
        for (int ranker : Edges.NO_RANKER) {
            x.due(-1).rank(ranker, 0, 20);
            x.due(-1).rank(ranker, 1, 20);
        }
        for (int document : Edges.NO_DOCUMENT) {
            x.due(-1).rank(0, 0, document);
            x.due(-1).rank(3, 0, document);
        }
    }

    private void rankRefused() {
        rankNoSuch(edges.of(3, "-1;"));
        Asked x = edges.of(3, Edges.REFUSED).standard();
        rankNoSuch(x);
        x.due(-3).rank(0, 0, 2);
        x.due(-4).rank(1, 0, 18);
        x.isStandard();
    }

    private void rankFirstThatFits() {
        Asked x = edges.of(3, Edges.FIRST_THAT_FITS).standard();
        x.due(-1).rank(1, 0, 24);
        x.due(-3).rank(1, 0, 2);
        x.due(-3).rank(1, 0, 17);
        x.due(-4).rank(1, 0, 1);
        x.isStandard();
    }

    private void emptied() {
        Asked x = edges.of(4, "A RANKER's ROW is there, and empty: how many it had (0 without one).");
        x.due(0).empty(3, 7);
        x.due(1).count(7, 2);
        x.due(-2).at(3, 7, 1);
        x.due(0).empty(3, 7);
        x.due(1).rank(3, 7, 23);
        x.due(1).empty(3, 7);
        x.due(-2).at(3, 7, 1);
        x.rowRange(3, 7, 0, 16);
        x.due(16).empty(3, 7);
        for (int rank = 1; rank <= 16; rank++) {
            x.due(-2).at(3, 7, rank);
        }
        x.due(1).count(7, 2);
        x.due(1).drop(3, 7);
        x.due(0).empty(3, 7);
        x.due(0).empty(0, 0);
    }

    private void emptiedKeepsOthers() {
        Asked x = edges.of(4, "A RANKER's ROW is there, and empty").standard();
        x.due(0).empty(2, 0);
        x.isStandard();
        x.due(3).empty(0, 0);
        x.due(2).at(1, 0, 1);
        x.due(23).at(0, 7, 1);
        x.due(13).grade(0, 0, 3);
        x.board(5, 6);
    }

    private static void emptyNoSuch(Asked x) {
        for (int question : Edges.NO_QUESTION) {
            x.due(-1).empty(0, question);
        }
        for (int ranker : Edges.NO_RANKER) {
            x.due(-1).empty(ranker, 0);
            x.due(-1).empty(ranker, 6);
        }
        x.due(-1).empty(4, 8);
    }

    private void emptyRefused() {
        emptyNoSuch(edges.of(4, "-1."));
        Asked x = edges.of(4, Edges.REFUSED).standard();
        emptyNoSuch(x);
        x.isStandard();
    }

    private void dropped() {
        Asked x = edges.of(5, "A RANKER has no ROW: 1;");
        x.rowRange(0, 0, 0, 16);
        x.due(1).drop(0, 0);
        x.due(-1).at(0, 0, 1);
        x.due(0).count(0, 2);
        x.due(0).empty(0, 0);
        x.due(1).drop(0, 0);
        x.row(3, 7, 23);
        x.due(1).drop(3, 7);
        x.due(-1).at(3, 7, 1);
        x.due(1).rank(3, 7, 23);
    }

    private void droppedKeepsOthers() {
        Asked x = edges.of(5, "A RANKER has no ROW: 1;").standard();
        x.row(3, 0, 4);
        x.due(1).drop(3, 0);
        x.isStandard();
    }

    private static void dropNoSuch(Asked x) {
        for (int question : Edges.NO_QUESTION) {
            x.due(-1).drop(0, question);
        }
        for (int ranker : Edges.NO_RANKER) {
            x.due(-1).drop(ranker, 0);
            x.due(-1).drop(ranker, 6);
        }
    }

    private void dropRefused() {
        Asked x = edges.of(5, "-1 (also if it has none).");
        dropNoSuch(x);
        x.due(-1).drop(3, 0);
        x.row(3, 0);
        x.due(1).drop(3, 0);
        x.due(-1).drop(3, 0);
        x = edges.of(5, Edges.REFUSED).standard();
        dropNoSuch(x);
        x.due(-1).drop(3, 0);
        x.due(-1).drop(1, 7);
        x.isStandard();
    }

    private void atRanks() {
        Asked x = edges.of(6, "The DOCUMENT of a rank.");
        x.row(3, 7, 0);
        x.due(0).at(3, 7, 1);
        x.rowRange(0, 0, 8, 24);
        x.due(8).at(0, 0, 1);
        x.due(23).at(0, 0, 16);
    }

    private void atNoRow() {
        Asked x = edges.of(6, "-1;");
        x.due(-1).at(0, 0, 1);
        x.due(-1).at(0, 0, 0);
        x.empty(0, 0);
        x.due(-2).at(0, 0, 1);
        x.drop(0, 0);
        x.due(-1).at(0, 0, 1);
    }

    private void atNoRank() {
        Asked x = edges.of(6, "-2: the ROW has no such rank.");
        x.row(0, 0, 5, 6);
        int[] outside = {0, 3, 16, 17, -1, Edges.LEAST, Edges.GREATEST};
        for (int rank : outside) {
            x.due(-2).at(0, 0, rank);
        }
        x.due(6).at(0, 0, 2);
        x.rowRange(0, 0, 0, 16);
        x.due(-2).at(0, 0, 17);
        x.due(-2).at(0, 0, 0);
        x.empty(0, 0);
        x.due(-2).at(0, 0, 1);
        x.due(-2).at(0, 0, 0);
        x.rank(0, 0, 9);
        x.due(-2).at(0, 0, 2);
    }

    private void atRefused() {
        Asked x = edges.of(6, Edges.REFUSED).standard();
        for (int question : Edges.NO_QUESTION) {
            x.due(-1).at(0, question, 1);
        }
        for (int ranker : Edges.NO_RANKER) {
            x.due(-1).at(ranker, 0, 1);
            x.due(-1).at(ranker, 6, 1);
        }
        x.due(-1).at(3, 0, 17);
        x.due(-2).at(2, 0, 1);
        x.isStandard();
    }

    private void counts() {
        Asked x = edges.of(7, "Of a QUESTION: 0 R, 1 N, 2 for how many RANKERS there is a ROW.");
        x.due(0).count(7, 0);
        x.due(0).count(7, 1);
        x.due(0).count(7, 2);
        x.gradeRange(7, 0, 24, 0);
        x.due(0).count(7, 0);
        x.due(24).count(7, 1);
        for (int grade = 1; grade <= 3; grade++) {
            x.gradeRange(7, 0, 24, grade);
            x.due(24).count(7, 0);
            x.due(0).count(7, 1);
        }
        x.due(0).count(6, 0);
        x.gradeRange(7, 0, 24, -1);
        x.due(0).count(7, 0);
        x.due(0).count(7, 1);
    }

    private void countsGood() {
        Asked x = edges.of(7, "A DOCUMENT has a GRADE 0 .. 3, or none (not JUDGED, as all at first);");
        x.due(0).count(0, 0);
        x.due(0).count(0, 1);
        x = edges.of(7, "GOOD are those with a GRADE of 1 or more.");
        int[] good = {0, 0, 1, 1, 1};
        for (int grade = -1; grade <= 3; grade++) {
            x.grade(0, 23, grade);
            x.due(good[grade + 1]).count(0, 0);
        }
        x = edges.of(7, "Let R be how many GOOD ones a QUESTION has, N how many with GRADE 0;");
        int[] zero = {0, 1, 0, 0, 0};
        for (int grade = -1; grade <= 3; grade++) {
            x.grade(0, 23, grade);
            x.due(zero[grade + 1]).count(0, 1);
        }
        x.row(0, 0, 0, 1);
        x.due(1).count(0, 0);
        x.due(0).count(0, 1);
    }

    private void countsRows() {
        Asked x = edges.of(7, "2 for how many RANKERS there is a ROW.");
        for (int ranker = 0; ranker < 4; ranker++) {
            x.empty(ranker, 0);
            x.due(ranker + 1).count(0, 2);
        }
        x.rank(0, 0, 0);
        x.due(4).count(0, 2);
        x.due(0).count(1, 2);
        for (int ranker = 3; ranker >= 0; ranker--) {
            x.drop(ranker, 0);
            x.due(ranker).count(0, 2);
        }
    }

    private static void countNoSuch(Asked x) {
        for (int question : Edges.NO_QUESTION) {
            x.due(-1).count(question, 0);
            x.due(-1).count(question, 3);
        }
    }

    private static void countOutside(Asked x) {
        int[] outside = {-1, 3, Edges.LEAST, Edges.GREATEST};
        for (int what : outside) {
            x.due(-2).count(0, what);
            x.due(-2).count(7, what);
        }
    }

    private void countRefused() {
        countNoSuch(edges.of(7, "-1;"));
        countOutside(edges.of(7, "-2."));
        Asked x = edges.of(7, Edges.REFUSED).standard();
        countNoSuch(x);
        countOutside(x);
        x.isStandard();
    }
}
