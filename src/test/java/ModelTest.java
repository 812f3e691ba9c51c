import java.util.Random;

/** All promises: runs of 512 calls by fixed seeds, asked of the class and of the model. */
final class ModelTest {
    private static final int RUNS = 400;
    private static final Check check = new Check();

    private final Random random;
    private final int questions;
    private final int wildOneIn;
    private final RankBench bench = new RankBench();
    private final Model model = new Model();

    private ModelTest(int run) {
        random = new Random(run);
        questions = 1 + run % 8;
        wildOneIn = run % 3 == 0 ? 6 : 60;
    }

    public static void main(String[] args) {
        for (int run = 0; run < RUNS; run++) {
            new ModelTest(run).callAll(run);
        }
        check.end();
    }

    private void callAll(int run) {
        fill();
        for (int call = 0; call < 512; call++) {
            String where = "run " + run + ", call " + call;
            if (random.nextInt(3) == 0) {
                change(where);
            } else {
                ask(where);
            }
            check.due(where + ", top", bench.top(), model.top());
            check.due(where + ", bottom", bench.bottom(), model.bottom());
        }
    }

    /** Long rows are rare by single calls, so a run may begin with some. */
    private void fill() {
        int calls = random.nextInt(3) * 300;
        for (int i = 0; i < calls; i++) {
            int question = question();
            int document = document();
            int ranker = ranker();
            int grade = random.nextInt(5) - 1;
            check.due("fill", bench.grade(question, document, grade), model.grade(question, document, grade));
            document = document();
            check.due("fill", bench.rank(ranker, question, document), model.rank(ranker, question, document));
        }
    }

    private int number(int low, int high) {
        if (random.nextInt(wildOneIn) == 0) {
            int[] wild = {low - 1, high + 1, Integer.MIN_VALUE, Integer.MAX_VALUE, -1, 0, random.nextInt()};
            return wild[random.nextInt(wild.length)];
        }
        return low + random.nextInt(high - low + 1);
    }

    private int question() {
        return number(0, questions - 1);
    }

    private int ranker() {
        return number(0, 3);
    }

    private int document() {
        return number(0, 23);
    }

    private int depth() {
        return number(1, 16);
    }

    private void change(String where) {
        int question = question();
        int ranker = ranker();
        int document = document();
        int grade = number(-1, 3);
        switch (random.nextInt(12)) {
            case 0 -> check.due(where + ", empty", bench.empty(ranker, question), model.empty(ranker, question));
            case 1 -> check.due(where + ", drop", bench.drop(ranker, question), model.drop(ranker, question));
            case 2, 3, 4, 5 -> check.due(where + ", grade", bench.grade(question, document, grade),
                    model.grade(question, document, grade));
            default -> check.due(where + ", rank", bench.rank(ranker, question, document),
                    model.rank(ranker, question, document));
        }
    }

    private void ask(String where) {
        int one = ranker();
        int other = ranker();
        int question = question();
        int k = depth();
        int what = number(0, 8);
        int i = number(0, 16);
        int seed = random.nextInt();
        int n = number(1, 50);
        int which = number(0, 2);
        boolean high = random.nextBoolean();
        switch (random.nextInt(13)) {
            case 0 -> check.due(where + ", at", bench.at(one, question, i), model.at(one, question, i));
            case 1 -> check.due(where + ", count", bench.count(question, which), model.count(question, which));
            case 2 -> check.due(where + ", measure", bench.measure(one, question, what, k),
                    model.measure(one, question, what, k));
            case 3 -> check.due(where + ", gain", bench.gain(one, question, k, high),
                    model.gain(one, question, k, high));
            case 4 -> check.due(where + ", mean", bench.mean(one, what, k), model.mean(one, what, k));
            case 5 -> check.due(where + ", odds", bench.odds(one, other, what, k), model.odds(one, other, what, k));
            case 6 -> check.due(where + ", wins", bench.wins(one, other, what, k, which),
                    model.wins(one, other, what, k, which));
            case 7 -> check.due(where + ", likeness", bench.likeness(one, other, question),
                    model.likeness(one, other, question));
            case 8 -> check.due(where + ", overlap", bench.overlap(one, other, question, k),
                    model.overlap(one, other, question, k));
            case 9 -> check.due(where + ", pool", bench.pool(question, k, i), model.pool(question, k, i));
            case 10 -> check.due(where + ", laid", bench.laid(one, other, question, seed, i),
                    model.laid(one, other, question, seed, i));
            case 11 -> check.due(where + ", clicks", bench.clicks(one, other, question, seed),
                    model.clicks(one, other, question, seed));
            default -> check.due(where + ", prefer", bench.prefer(one, other, question, seed, n),
                    model.prefer(one, other, question, seed, n));
        }
    }
}
