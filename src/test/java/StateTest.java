/** Promises 1 to 7: a new object, grades, rows, and how many of what there are. */
final class StateTest {
    private static final Check check = new Check();

    public static void main(String[] args) {
        newObject();
        grades();
        gradesRefused();
        rows();
        rowsRefused();
        emptied();
        dropped();
        ranks();
        counts();
        check.end();
    }

    private static void newObject() {
        RankBench x = new RankBench();
        check.due("1: top", x.top(), 0);
        check.due("1: bottom", x.bottom(), 1);
        for (int question = 0; question < 8; question++) {
            for (int what = 0; what < 3; what++) {
                check.due("1: count " + question + " " + what, x.count(question, what), 0);
            }
            for (int ranker = 0; ranker < 4; ranker++) {
                check.due("1: at " + ranker + " " + question, x.at(ranker, question, 1), -1);
            }
            for (int document = 0; document < 24; document++) {
                check.due("1: grade " + question + " " + document, x.grade(question, document, -1), 9);
            }
        }
    }

    private static void grades() {
        RankBench x = new RankBench();
        check.due("2: none before", x.grade(7, 23, 3), 9);
        check.due("2: 3 before", x.grade(7, 23, 0), 13);
        check.due("2: 0 before", x.grade(7, 23, 1), 10);
        check.due("2: 1 before", x.grade(7, 23, 2), 11);
        check.due("2: 2 before", x.grade(7, 23, -1), 12);
        check.due("2: none again", x.grade(7, 23, -1), 9);
        x.grade(0, 5, 2);
        check.due("2: another question's own", x.grade(1, 5, 1), 9);
        check.due("2: another document's own", x.grade(0, 6, 1), 9);
        check.due("2: kept", x.grade(0, 5, 2), 12);
    }

    private static void gradesRefused() {
        RankBench x = new RankBench();
        x.grade(0, 0, 2);
        check.due("2: question -1", x.grade(-1, 0, 0), -1);
        check.due("2: question 8", x.grade(8, 0, 0), -1);
        check.due("2: document -1", x.grade(0, -1, 0), -1);
        check.due("2: document 24", x.grade(0, 24, 0), -1);
        check.due("2: grade -2", x.grade(0, 0, -2), -2);
        check.due("2: grade 4", x.grade(0, 0, 4), -2);
        check.due("2: document and grade", x.grade(0, 24, 4), -1);
        check.due("2: the least and the greatest", x.grade(Integer.MIN_VALUE, Integer.MAX_VALUE, 9), -1);
        check.due("2: nothing changed", x.grade(0, 0, 2), 12);
    }

    private static void rows() {
        RankBench x = new RankBench();
        check.due("3: the row begins", x.rank(3, 7, 23), 1);
        check.due("3: and goes on", x.rank(3, 7, 0), 2);
        check.due("3: a row of its own", x.rank(2, 7, 0), 1);
        check.due("3: of each question", x.rank(3, 6, 0), 1);
        check.due("3: ungraded and graded alike", x.grade(7, 4, 0) + x.rank(3, 7, 4), 12);
    }

    private static void rowsRefused() {
        RankBench x = new RankBench();
        check.due("3: ranker -1", x.rank(-1, 0, 0), -1);
        check.due("3: ranker 4", x.rank(4, 0, 0), -1);
        check.due("3: question -1", x.rank(0, -1, 0), -1);
        check.due("3: question 8", x.rank(0, 8, 0), -1);
        check.due("3: document -1", x.rank(0, 0, -1), -1);
        check.due("3: document 24", x.rank(0, 0, 24), -1);
        check.due("3: no row by a refusal", x.count(0, 2), 0);
        for (int document = 0; document < 16; document++) {
            check.due("3: rank " + document, x.rank(0, 0, document), document + 1);
        }
        check.due("3: the first is there", x.rank(0, 0, 0), -3);
        check.due("3: the last is there", x.rank(0, 0, 15), -3);
        check.due("3: no room", x.rank(0, 0, 16), -4);
        check.due("3: no such one before no room", x.rank(0, 0, 24), -1);
        check.due("3: nothing changed", x.empty(0, 0), 16);
        check.due("3: a document may come again then", x.rank(0, 0, 15), 1);
    }

    private static void emptied() {
        RankBench x = new RankBench();
        check.due("4: without one", x.empty(1, 2), 0);
        check.due("4: the row is there", x.count(2, 2), 1);
        check.due("4: and empty", x.at(1, 2, 1), -2);
        x.rank(1, 2, 3);
        x.rank(1, 2, 4);
        check.due("4: with two", x.empty(1, 2), 2);
        check.due("4: empty again", x.at(1, 2, 1), -2);
        check.due("4: once more", x.empty(1, 2), 0);
        check.due("4: ranker -1", x.empty(-1, 2), -1);
        check.due("4: ranker 4", x.empty(4, 2), -1);
        check.due("4: question -1", x.empty(1, -1), -1);
        check.due("4: question 8", x.empty(1, 8), -1);
    }

    private static void dropped() {
        RankBench x = new RankBench();
        check.due("5: none", x.drop(0, 0), -1);
        x.rank(0, 0, 7);
        x.rank(1, 0, 8);
        check.due("5: dropped", x.drop(0, 0), 1);
        check.due("5: no row", x.at(0, 0, 1), -1);
        check.due("5: none any more", x.drop(0, 0), -1);
        check.due("5: the other's is left", x.at(1, 0, 1), 8);
        check.due("5: it begins anew", x.rank(0, 0, 7), 1);
        x.empty(2, 0);
        check.due("5: an empty one", x.drop(2, 0), 1);
        x.rank(3, 0, 1);
        x.drop(3, 0);
        check.due("5: had none", x.empty(3, 0), 0);
        check.due("5: ranker -1", x.drop(-1, 0), -1);
        check.due("5: ranker 4", x.drop(4, 0), -1);
        check.due("5: question -1", x.drop(0, -1), -1);
        check.due("5: question 8", x.drop(0, 8), -1);
    }

    private static void ranks() {
        RankBench x = new RankBench();
        x.rank(0, 0, 9);
        x.rank(0, 0, 0);
        x.rank(0, 0, 23);
        check.due("6: rank 1", x.at(0, 0, 1), 9);
        check.due("6: rank 2", x.at(0, 0, 2), 0);
        check.due("6: rank 3", x.at(0, 0, 3), 23);
        check.due("6: rank 4", x.at(0, 0, 4), -2);
        check.due("6: rank 0", x.at(0, 0, 0), -2);
        check.due("6: rank -1", x.at(0, 0, -1), -2);
        check.due("6: the greatest", x.at(0, 0, Integer.MAX_VALUE), -2);
        check.due("6: the least", x.at(0, 0, Integer.MIN_VALUE), -2);
        check.due("6: no row before no rank", x.at(1, 0, 0), -1);
        check.due("6: ranker 4", x.at(4, 0, 1), -1);
        check.due("6: ranker -1", x.at(-1, 0, 1), -1);
        check.due("6: question 8", x.at(0, 8, 1), -1);
        check.due("6: question -1", x.at(0, -1, 1), -1);
        x.empty(0, 0);
        for (int document = 0; document < 16; document++) {
            x.rank(0, 0, 23 - document);
        }
        check.due("6: rank 16", x.at(0, 0, 16), 8);
        check.due("6: rank 17", x.at(0, 0, 17), -2);
    }

    private static void counts() {
        RankBench x = new RankBench();
        for (int document = 0; document < 24; document++) {
            x.grade(3, document, document % 5 - 1);
        }
        check.due("7: good ones", x.count(3, 0), 14);
        check.due("7: with grade 0", x.count(3, 1), 5);
        check.due("7: no rows", x.count(3, 2), 0);
        x.empty(0, 3);
        x.rank(3, 3, 0);
        x.rank(3, 4, 0);
        check.due("7: rows, an empty one too", x.count(3, 2), 2);
        x.grade(3, 1, 1);
        check.due("7: one more good", x.count(3, 0), 15);
        check.due("7: one less with 0", x.count(3, 1), 4);
        x.grade(3, 1, -1);
        check.due("7: good, not judged", x.count(3, 0), 14);
        check.due("7: what -1", x.count(3, -1), -2);
        check.due("7: what 3", x.count(3, 3), -2);
        check.due("7: question -1", x.count(-1, 0), -1);
        check.due("7: question 8", x.count(8, 3), -1);
    }
}
