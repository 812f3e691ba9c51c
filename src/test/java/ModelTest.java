import java.util.Random;

/** All promises: runs of calls by fixed seeds, asked of the class and of the model. */
final class ModelTest {
    private static final int RUNS = 1500;
    /** What later calls answer is free, so they are not asked. */
    private static final int MOST_CALLS = 512;
    private static final Check check = new Check();

    private final Random random;
    private final int questions;
    private final int wildOneIn;
    private final RankBench bench = new RankBench();
    private final Model model = new Model();
    private int calls;

    private ModelTest(int run) {
        random = new Random(run);
        questions = 1 + run % 8;
        wildOneIn = run % 3 == 0 ? 6 : 60;
    }

    public static void main(String[] args) {
        for (int run = 0; run < RUNS; run++) {
            new ModelTest(run).callAll(run);
        }
        check.end();
    }

    private void callAll(int run) {
        if (run % 4 == 0) {
            fillRows();
        } else if (run % 4 == 1) {
            fill();
        }
        for (; calls + 3 <= MOST_CALLS; calls += 3) {
            String where = "run " + run + ", call " + calls;
            if (random.nextInt(3) == 0) {
                change(where);
            } else {
                ask(where);
            }
            check.due(where + ", top", bench.top(), model.top());
            check.due(where + ", bottom", bench.bottom(), model.bottom());
        }
    }

    private void grade(String where, int question, int document, int grade) {
        check.due(where + ", grade", bench.grade(question, document, grade), model.grade(question, document, grade));
    }

    private void rank(String where, int ranker, int question, int document) {
        check.due(where + ", rank", bench.rank(ranker, question, document), model.rank(ranker, question, document));
    }

    /** Long rows are rare by single calls: two full rows of each question, and a grade for most documents. */
    private void fillRows() {
        for (int question = 0; question < questions; question++) {
            int good = random.nextInt(25);
            int start = random.nextInt(24);
            for (int document = 0; document < 24; document++) {
                int place = (document * 7 + start) % 24;
                int grade = place < good ? 1 + random.nextInt(3) : random.nextInt(5) == 0 ? -1 : 0;
                grade("fill", question, document, grade);
            }
            int one = random.nextInt(24);
            int other = random.nextInt(24);
            for (int i = 0; i < 16; i++) {
                rank("fill", 0, question, (one + i * 5) % 24);
                rank("fill", 1, question, (other + i * 11) % 24);
            }
            calls += 24 + 2 * 16;
        }
    }

    private void fill() {
        for (; calls < 300; calls += 2) {
            grade("fill", question(), document(), random.nextInt(5) - 1);
            rank("fill", ranker(), question(), document());
        }
    }

    private int number(int low, int high) {
        if (random.nextInt(wildOneIn) == 0) {
            int[] wild = {low - 1, high + 1, Integer.MIN_VALUE, Integer.MAX_VALUE, -1, 0, random.nextInt()};
            return wild[random.nextInt(wild.length)];
        }
        return low + random.nextInt(high - low + 1);
    }

    private int question() {
        return number(0, questions - 1);
    }

    private int ranker() {
        return number(0, 3);
    }

    private int document() {
        return number(0, 23);
    }

    private int depth() {
        return number(1, 16);
    }

    private void change(String where) {
        int question = question();
        int ranker = ranker();
        int document = document();
        int grade = number(-1, 3);
        switch (random.nextInt(12)) {
            case 0 -> check.due(where + ", empty", bench.empty(ranker, question), model.empty(ranker, question));
            case 1 -> check.due(where + ", drop", bench.drop(ranker, question), model.drop(ranker, question));
            case 2, 3, 4, 5 -> grade(where, question, document, grade);
            default -> rank(where, ranker, question, document);
        }
    }

    private void ask(String where) {
        int one = ranker();
        int other = ranker();
        int question = question();
        int k = depth();
        int what = number(0, 8);
        int i = number(0, 16);
        int seed = random.nextInt();
        int n = number(1, 50);
        int which = number(0, 2);
        boolean high = random.nextBoolean();
        switch (random.nextInt(13)) {
            case 0 -> check.due(where + ", at", bench.at(one, question, i), model.at(one, question, i));
            case 1 -> check.due(where + ", count", bench.count(question, which), model.count(question, which));
            case 2 -> check.due(where + ", measure", bench.measure(one, question, what, k),
                    model.measure(one, question, what, k));
            case 3 -> check.due(where + ", gain", bench.gain(one, question, k, high),
                    model.gain(one, question, k, high));
            case 4 -> check.due(where + ", mean", bench.mean(one, what, k), model.mean(one, what, k));
            case 5 -> check.due(where + ", odds", bench.odds(one, other, what, k), model.odds(one, other, what, k));
            case 6 -> check.due(where + ", wins", bench.wins(one, other, what, k, which),
                    model.wins(one, other, what, k, which));
            case 7 -> check.due(where + ", likeness", bench.likeness(one, other, question),
                    model.likeness(one, other, question));
            case 8 -> check.due(where + ", overlap", bench.overlap(one, other, question, k),
                    model.overlap(one, other, question, k));
            case 9 -> check.due(where + ", pool", bench.pool(question, k, i), model.pool(question, k, i));
            case 10 -> check.due(where + ", laid", bench.laid(one, other, question, seed, i),
                    model.laid(one, other, question, seed, i));
            case 11 -> check.due(where + ", clicks", bench.clicks(one, other, question, seed),
                    model.clicks(one, other, question, seed));
            default -> check.due(where + ", prefer", bench.prefer(one, other, question, seed, n),
                    model.prefer(one, other, question, seed, n));
        }
    }
}
