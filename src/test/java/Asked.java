import java.util.Arrays;

/** A bench whose answers are looked at: due(n) tells what the next call is to answer. */
final class Asked {
    /** What the document allows; what later calls answer is free, so no test may look at it. */
    static final int MOST_CALLS = 512;

    private final Edges edges;
    private final RankBench bench = new RankBench();
    private int calls;
    private Long want;

    Asked(Edges edges) {
        this.edges = edges;
    }

    Asked due(long answer) {
        want = answer;
        return this;
    }

    int callsLeft() {
        return MOST_CALLS - calls;
    }

    private long answered(String name, long got, Object... arguments) {
        calls++;
        String call = name + Arrays.toString(arguments).replace('[', '(').replace(']', ')');
        edges.dueTrue(call + " is call " + calls + " of one object", calls <= MOST_CALLS);
        if (want != null) {
            edges.due(call, got, want);
            want = null;
        }
        return got;
    }

    int grade(int question, int document, int grade) {
        return (int) answered("grade", bench.grade(question, document, grade), question, document, grade);
    }

    int rank(int ranker, int question, int document) {
        return (int) answered("rank", bench.rank(ranker, question, document), ranker, question, document);
    }

    int empty(int ranker, int question) {
        return (int) answered("empty", bench.empty(ranker, question), ranker, question);
    }

    int drop(int ranker, int question) {
        return (int) answered("drop", bench.drop(ranker, question), ranker, question);
    }

    int at(int ranker, int question, int rank) {
        return (int) answered("at", bench.at(ranker, question, rank), ranker, question, rank);
    }

    int count(int question, int what) {
        return (int) answered("count", bench.count(question, what), question, what);
    }

    int measure(int ranker, int question, int what, int k) {
        return (int) answered("measure", bench.measure(ranker, question, what, k), ranker, question, what, k);
    }

    long top() {
        return answered("top", bench.top());
    }

    long bottom() {
        return answered("bottom", bench.bottom());
    }

    long gain(int ranker, int question, int k, boolean high) {
        return answered("gain", bench.gain(ranker, question, k, high), ranker, question, k, high);
    }

    int mean(int ranker, int what, int k) {
        return (int) answered("mean", bench.mean(ranker, what, k), ranker, what, k);
    }

    int odds(int one, int other, int what, int k) {
        return (int) answered("odds", bench.odds(one, other, what, k), one, other, what, k);
    }

    int wins(int one, int other, int what, int k, int which) {
        return (int) answered("wins", bench.wins(one, other, what, k, which), one, other, what, k, which);
    }

    int likeness(int one, int other, int question) {
        return (int) answered("likeness", bench.likeness(one, other, question), one, other, question);
    }

    int overlap(int one, int other, int question, int k) {
        return (int) answered("overlap", bench.overlap(one, other, question, k), one, other, question, k);
    }

    int pool(int question, int k, int i) {
        return (int) answered("pool", bench.pool(question, k, i), question, k, i);
    }

    int laid(int one, int other, int question, int seed, int i) {
        return (int) answered("laid", bench.laid(one, other, question, seed, i), one, other, question, seed, i);
    }

    int clicks(int one, int other, int question, int seed) {
        return (int) answered("clicks", bench.clicks(one, other, question, seed), one, other, question, seed);
    }

    int prefer(int one, int other, int question, int seed, int n) {
        return (int) answered("prefer", bench.prefer(one, other, question, seed, n), one, other, question, seed, n);
    }

    void board(long top, long bottom) {
        due(top).top();
        due(bottom).bottom();
    }

    /** A measure and what the board is to show of it. */
    void shows(int ranker, int question, int what, int k, long top, long bottom) {
        due(1).measure(ranker, question, what, k);
        board(top, bottom);
    }

    /** The grades of documents 0, 1, .. of a question; -1 for none. */
    Asked grades(int question, int... grades) {
        for (int document = 0; document < grades.length; document++) {
            if (grades[document] >= 0) {
                grade(question, document, grades[document]);
            }
        }
        return this;
    }

    /** A row anew; without documents it is told as an empty one. */
    Asked row(int ranker, int question, int... documents) {
        empty(ranker, question);
        for (int document : documents) {
            rank(ranker, question, document);
        }
        return this;
    }

    /** Documents first, first + 1, .. of a question, with one grade. */
    Asked gradeRange(int question, int first, int behind, int grade) {
        for (int document = first; document < behind; document++) {
            grade(question, document, grade);
        }
        return this;
    }

    /** A row anew of documents first, first + 1, .. */
    Asked rowRange(int ranker, int question, int first, int behind) {
        empty(ranker, question);
        for (int document = first; document < behind; document++) {
            rank(ranker, question, document);
        }
        return this;
    }

    /** Samples.eightQuestions, call by call. */
    Asked eightQuestions() {
        Samples.fillEight(this::grade, this::rank);
        return this;
    }

    /** A state in which every kind of row stands: short, full, empty and none; the board shows 5 / 6. */
    Asked standard() {
        grades(0, 3, 0, 1);
        row(0, 0, 0, 1, 2);
        rowRange(1, 0, 2, 18);
        row(2, 0);
        grade(7, 23, 2);
        row(0, 7, 23);
        measure(0, 0, 2, 16);
        return this;
    }

    /** The state is still the standard one. */
    void isStandard() {
        board(5, 6);
        int[][] counts = {{2, 1, 3}, {0, 0, 0}, {0, 0, 0}, {0, 0, 0}, {0, 0, 0}, {0, 0, 0}, {0, 0, 0}, {1, 0, 1}};
        for (int question = 0; question < 8; question++) {
            for (int what = 0; what < 3; what++) {
                due(counts[question][what]).count(question, what);
            }
        }
        for (int rank = 1; rank <= 17; rank++) {
            due(rank <= 3 ? rank - 1 : -2).at(0, 0, rank);
            due(rank <= 16 ? rank + 1 : -2).at(1, 0, rank);
        }
        due(-2).at(2, 0, 1);
        due(-1).at(3, 0, 1);
        due(23).at(0, 7, 1);
        due(-2).at(0, 7, 2);
        int[] grades = {3, 0, 1};
        for (int document = 0; document < 24; document++) {
            int grade = document < 3 ? grades[document] : -1;
            due(10 + grade).grade(0, document, grade);
        }
        due(12).grade(7, 23, 2);
    }
}
