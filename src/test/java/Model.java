import java.math.BigInteger;
import java.util.ArrayList;
import java.util.Comparator;
import java.util.HashSet;
import java.util.List;
import java.util.Set;
import java.util.TreeSet;

/** The document's words once more, in lists and fractions of any size: slow, and written apart from the class. */
final class Model {
    private final Integer[][] grades = new Integer[8][24];
    private final List<List<List<Integer>>> rows = new ArrayList<>();
    private Ratio board = Ratio.ZERO;

    Model() {
        for (int ranker = 0; ranker < 4; ranker++) {
            List<List<Integer>> own = new ArrayList<>();
            for (int question = 0; question < 8; question++) {
                own.add(null);
            }
            rows.add(own);
        }
    }

    private static boolean question(int n) {
        return 0 <= n && n <= 7;
    }

    private static boolean ranker(int n) {
        return 0 <= n && n <= 3;
    }

    private static boolean document(int n) {
        return 0 <= n && n <= 23;
    }

    private static boolean depth(int n) {
        return 1 <= n && n <= 16;
    }

    private List<Integer> row(int ranker, int question) {
        return ranker(ranker) && question(question) ? rows.get(ranker).get(question) : null;
    }

    private boolean good(int question, int document) {
        return grades[question][document] != null && grades[question][document] > 0;
    }

    private boolean bad(int question, int document) {
        return grades[question][document] != null && grades[question][document] == 0;
    }

    int grade(int question, int document, int grade) {
        if (!question(question) || !document(document)) return -1;
        if (grade < -1 || grade > 3) return -2;
        Integer before = grades[question][document];
        grades[question][document] = grade == -1 ? null : Integer.valueOf(grade);
        return 10 + (before == null ? -1 : before);
    }

    int rank(int ranker, int question, int document) {
        if (!ranker(ranker) || !question(question) || !document(document)) return -1;
        List<Integer> row = row(ranker, question);
        if (row == null) {
            row = new ArrayList<>();
            rows.get(ranker).set(question, row);
        }
        if (row.contains(document)) return -3;
        if (row.size() == 16) return -4;
        row.add(document);
        return row.size();
    }

    int empty(int ranker, int question) {
        if (!ranker(ranker) || !question(question)) return -1;
        List<Integer> before = rows.get(ranker).set(question, new ArrayList<>());
        return before == null ? 0 : before.size();
    }

    int drop(int ranker, int question) {
        if (row(ranker, question) == null) return -1;
        rows.get(ranker).set(question, null);
        return 1;
    }

    int at(int ranker, int question, int rank) {
        List<Integer> row = row(ranker, question);
        if (row == null) return -1;
        return rank < 1 || rank > row.size() ? -2 : row.get(rank - 1);
    }

    int count(int question, int what) {
        if (!question(question)) return -1;
        int found = 0;
        switch (what) {
            case 0 -> {
                return goodOnes(question).size();
            }
            case 1 -> {
                for (int d = 0; d < 24; d++) if (bad(question, d)) found++;
            }
            case 2 -> {
                for (int r = 0; r < 4; r++) if (row(r, question) != null) found++;
            }
            default -> {
                return -2;
            }
        }
        return found;
    }

    private List<Integer> goodOnes(int question) {
        List<Integer> all = new ArrayList<>();
        for (int d = 0; d < 24; d++) if (good(question, d)) all.add(d);
        return all;
    }

    private static List<Integer> firstOf(List<Integer> row, int k) {
        return row.subList(0, Math.min(k, row.size()));
    }

    private Ratio gainOf(int question, List<Integer> part) {
        Ratio sum = Ratio.ZERO;
        for (int i = 0; i < part.size(); i++) {
            if (good(question, part.get(i))) {
                sum = sum.plus(Ratio.of((int) Math.pow(2, grades[question][part.get(i)]) - 1, i + 1));
            }
        }
        return sum;
    }

    private Ratio measured(int question, List<Integer> row, int what, int k) {
        List<Integer> part = firstOf(row, k);
        int all = count(question, 0);
        int found = (int) part.stream().filter(d -> good(question, d)).count();
        int judged = (int) part.stream().filter(d -> grades[question][d] != null).count();
        return switch (what) {
            case 0 -> Ratio.of(found, k);
            case 1 -> Ratio.of(found, all);
            case 2 -> average(question, part).by(all);
            case 3 -> part.stream().filter(d -> good(question, d)).findFirst()
                    .map(d -> Ratio.of(1, part.indexOf(d) + 1)).orElse(Ratio.ZERO);
            case 4 -> gainOf(question, part);
            case 5 -> {
                List<Integer> best = goodOnes(question);
                best.sort(Comparator.comparing(d -> -grades[question][d]));
                yield gainOf(question, part).by(gainOf(question, firstOf(best, k)));
            }
            case 6 -> preference(question, part).by(all);
            case 7 -> Ratio.of(part.size() - judged, 1);
            default -> Ratio.of(found, judged);
        };
    }

    private Ratio average(int question, List<Integer> part) {
        Ratio sum = Ratio.ZERO;
        for (int i = 0; i < part.size(); i++) {
            if (good(question, part.get(i))) {
                long upTo = part.subList(0, i + 1).stream().filter(d -> good(question, d)).count();
                sum = sum.plus(Ratio.of(upTo, i + 1));
            }
        }
        return sum;
    }

    private Ratio preference(int question, List<Integer> part) {
        int most = Math.min(count(question, 0), count(question, 1));
        Ratio sum = Ratio.ZERO;
        for (int i = 0; i < part.size(); i++) {
            if (good(question, part.get(i))) {
                long before = part.subList(0, i).stream().filter(d -> bad(question, d)).count();
                sum = sum.plus(Ratio.of(1, 1).minus(Ratio.of(Math.min(before, most), most)));
            }
        }
        return sum;
    }

    int measure(int ranker, int question, int what, int k) {
        List<Integer> row = row(ranker, question);
        if (row == null) return -1;
        if (what < 0 || what > 8 || !depth(k)) return -2;
        board = measured(question, row, what, k);
        return 1;
    }

    long top() {
        return board.top().longValueExact();
    }

    long bottom() {
        return board.bottom().longValueExact();
    }

    static BigInteger log(int n) {
        int whole = 0;
        while (n >> (whole + 1) > 0) whole++;
        BigInteger two30 = BigInteger.TWO.pow(30);
        BigInteger f = BigInteger.valueOf(n).multiply(two30).divide(BigInteger.TWO.pow(whole));
        BigInteger log = BigInteger.valueOf(whole).multiply(BigInteger.TWO.pow(20));
        for (int bit = 19; bit >= 0; bit--) {
            f = f.multiply(f).divide(two30);
            if (f.compareTo(two30.add(two30)) >= 0) {
                log = log.add(BigInteger.TWO.pow(bit));
                f = f.divide(BigInteger.TWO);
            }
        }
        return log;
    }

    long gain(int ranker, int question, int k, boolean high) {
        List<Integer> row = row(ranker, question);
        if (row == null) return -1;
        if (!depth(k)) return -2;
        BigInteger sum = BigInteger.ZERO;
        for (int i = 0; i < Math.min(k, row.size()); i++) {
            if (!good(question, row.get(i))) continue;
            BigInteger weight = BigInteger.TWO.pow(grades[question][row.get(i)]).subtract(BigInteger.ONE)
                    .multiply(BigInteger.TWO.pow(40));
            BigInteger log = log(i + 2);
            BigInteger[] up = weight.divideAndRemainder(log);
            BigInteger upwards = up[1].signum() == 0 ? up[0] : up[0].add(BigInteger.ONE);
            sum = sum.add(high ? upwards : weight.divide(log.add(BigInteger.ONE)));
        }
        return sum.longValueExact();
    }

    private boolean counts(int ranker, int question) {
        return row(ranker, question) != null && count(question, 0) > 0;
    }

    private static boolean summed(int what) {
        return List.of(0, 1, 2, 3, 6, 7, 8).contains(what);
    }

    int mean(int ranker, int what, int k) {
        if (!ranker(ranker)) return -1;
        if (!summed(what) || !depth(k)) return -2;
        Ratio sum = Ratio.ZERO;
        int n = 0;
        for (int q = 0; q < 8; q++) {
            if (counts(ranker, q)) {
                sum = sum.plus(measured(q, row(ranker, q), what, k));
                n++;
            }
        }
        if (n == 0) return -3;
        board = sum.by(n);
        return n;
    }

    private List<Ratio> differences(int one, int other, int what, int k) {
        List<Ratio> all = new ArrayList<>();
        for (int q = 0; q < 8; q++) {
            if (counts(one, q) && counts(other, q)) {
                all.add(measured(q, row(one, q), what, k).minus(measured(q, row(other, q), what, k)));
            }
        }
        return all;
    }

    int odds(int one, int other, int what, int k) {
        if (!ranker(one) || !ranker(other)) return -1;
        if (!summed(what) || !depth(k)) return -2;
        List<Ratio> all = differences(one, other, what, k);
        if (one == other || all.isEmpty()) return -3;
        int ways = 1 << all.size();
        int reaching = 0;
        for (int way = 0; way < ways; way++) {
            if (signed(all, way).compareSize(signed(all, 0)) >= 0) reaching++;
        }
        board = Ratio.of(reaching, ways);
        return all.size();
    }

    private static Ratio signed(List<Ratio> all, int way) {
        Ratio sum = Ratio.ZERO;
        for (int i = 0; i < all.size(); i++) {
            sum = (way >> i) % 2 == 1 ? sum.minus(all.get(i)) : sum.plus(all.get(i));
        }
        return sum;
    }

    int wins(int one, int other, int what, int k, int which) {
        if (!ranker(one) || !ranker(other)) return -1;
        if (!summed(what) || !depth(k) || which < 0 || which > 2) return -2;
        List<Ratio> all = differences(one, other, what, k);
        if (one == other || all.isEmpty()) return -3;
        int sign = List.of(1, -1, 0).get(which);
        return (int) all.stream().filter(d -> d.sign() == sign).count();
    }

    int likeness(int one, int other, int question) {
        List<Integer> first = row(one, question);
        List<Integer> second = row(other, question);
        if (first == null || second == null) return -1;
        int pairs = 0;
        int alike = 0;
        for (int a = 0; a < 24; a++) {
            for (int b = a + 1; b < 24; b++) {
                if (first.containsAll(List.of(a, b)) && second.containsAll(List.of(a, b))) {
                    pairs++;
                    boolean here = first.indexOf(a) < first.indexOf(b);
                    if (here == second.indexOf(a) < second.indexOf(b)) alike++;
                }
            }
        }
        board = Ratio.of(alike - (pairs - alike), pairs);
        return pairs;
    }

    int overlap(int one, int other, int question, int k) {
        List<Integer> first = row(one, question);
        List<Integer> second = row(other, question);
        if (first == null || second == null) return -1;
        if (!depth(k)) return -2;
        Ratio sum = Ratio.ZERO;
        for (int d = 1; d <= k; d++) {
            Set<Integer> both = new HashSet<>(firstOf(first, d));
            both.retainAll(firstOf(second, d));
            sum = sum.plus(Ratio.of(both.size(), d));
        }
        board = sum.by(k);
        return 1;
    }

    int pool(int question, int k, int i) {
        if (!question(question)) return -1;
        if (!depth(k)) return -2;
        TreeSet<Integer> pool = new TreeSet<>();
        for (int r = 0; r < 4; r++) {
            if (row(r, question) != null) pool.addAll(firstOf(row(r, question), k));
        }
        pool.removeIf(d -> grades[question][d] != null);
        return i < 0 || i >= pool.size() ? -3 : new ArrayList<>(pool).get(i);
    }

    /** Draws, of 32 bits without sign. */
    private static final class Draws {
        private long z;

        Draws(int seed) {
            z = seed & 0xffffffffL;
        }

        int next() {
            z = (1664525L * z + 1013904223L) % (1L << 32);
            return (int) (z / 65536);
        }
    }

    /** What is laid: documents, the second row's with 100. */
    private static List<Integer> lay(List<Integer> first, List<Integer> second, Draws draws) {
        List<Integer> left = new ArrayList<>(first);
        List<Integer> right = new ArrayList<>(second);
        List<Integer> laid = new ArrayList<>();
        while (laid.size() < 16 && left.size() + right.size() > 0) {
            boolean firstBegins = draws.next() % 2 == 0;
            for (int turn = 0; turn < 2; turn++) {
                boolean firstLays = firstBegins == (turn == 0);
                List<Integer> from = firstLays ? left : right;
                if (from.isEmpty() || laid.size() == 16) continue;
                Integer next = from.get(0);
                left.remove(next);
                right.remove(next);
                laid.add(firstLays ? next : next + 100);
            }
        }
        return laid;
    }

    int laid(int one, int other, int question, int seed, int i) {
        if (row(one, question) == null || row(other, question) == null) return -1;
        List<Integer> laid = lay(row(one, question), row(other, question), new Draws(seed));
        return i < 0 || i >= laid.size() ? -3 : laid.get(i);
    }

    int clicks(int one, int other, int question, int seed) {
        if (row(one, question) == null || row(other, question) == null) return -1;
        Draws draws = new Draws(seed);
        int clicks = 0;
        for (int laid : lay(row(one, question), row(other, question), draws)) {
            Integer grade = grades[question][laid % 100];
            int chance = grade == null ? 20 : List.of(10, 30, 60, 90).get(grade);
            if (draws.next() % 100 < chance) {
                clicks += laid >= 100 ? 100 : 1;
                if (draws.next() % 100 < 50) break;
            }
        }
        return clicks;
    }

    int prefer(int one, int other, int question, int seed, int n) {
        if (row(one, question) == null || row(other, question) == null) return -1;
        if (n < 1 || n > 50) return -2;
        int more = 0;
        for (int i = 0; i < n; i++) {
            int clicks = clicks(one, other, question, seed + i);
            int lead = Integer.compare(clicks % 100, clicks / 100);
            more += lead > 0 ? 1 : lead < 0 ? 100 : 0;
        }
        return more;
    }
}
