import java.util.Arrays;

/** A bench for rankings: rows of documents, grades for these, and what the two say of the rankers. */
public final class RankBench {
    private static final int QUESTIONS = 8;
    private static final int RANKERS = 4;
    private static final int DOCUMENTS = 24;
    private static final int LONGEST = 16;
    private static final int HIGHEST_GRADE = 3;
    private static final int MOST_SEEDS = 50;

    /** Stands for a grade or a document that is not there. */
    private static final int NONE = -1;

    private static final int NO_SUCH = -1;
    private static final int OUTSIDE = -2;
    private static final int NOT_AS_THINGS_STAND = -3;
    private static final int NO_ROOM = -4;

    private static final int PRECISION = 0;
    private static final int RECALL = 1;
    private static final int AVERAGE = 2;
    private static final int FIRST = 3;
    private static final int GAIN = 4;
    private static final int SHARE = 5;
    private static final int PREFERENCE = 6;
    private static final int UNJUDGED = 7;
    private static final int SURE = 8;

    /** Keeps a grade of none, which is -1, apart from a refusal. */
    private static final int GRADE_OFFSET = 10;

    /** What the second row has is told in hundreds, beside what the first one has. */
    private static final int OF_SECOND_ROW = 100;

    /** Every rank 1 .. 16 divides it, so that a sum of wholes by ranks is a whole number of these parts. */
    private static final long PARTS = 720720;

    private static final int LOG_BITS = 20;
    private static final int KEPT_BITS = 30;
    private static final int GAIN_BITS = 40;

    /** More than Euclid's way takes for any two longs. */
    private static final int MOST_DIVISIONS = 100;

    /** Clicks of a hundred: without a grade, then by the grades 0 .. 3. */
    private static final int[] CLICK_CHANCES = {20, 10, 30, 60, 90};
    private static final int END_CHANCE = 50;

    private final Question[] questions = new Question[QUESTIONS];
    private final Fraction board = new Fraction();
    // The room for objects is one for all calls of a run: these serve every call again.
    private final Fraction value = new Fraction();
    private final Fraction total = new Fraction();
    private final Contest contest = new Contest();
    private final Mix mix = new Mix();

    public RankBench() {
        for (int i = 0; i < QUESTIONS; i++) {
            questions[i] = new Question();
        }
    }

    public int grade(int question, int document, int grade) {
        Question asked = questionOf(question);
        if (asked == null || !isDocument(document)) {
            return NO_SUCH;
        }
        if (grade < NONE || grade > HIGHEST_GRADE) {
            return OUTSIDE;
        }
        int before = asked.gradeOf(document);
        asked.judge(document, grade);
        return before + GRADE_OFFSET;
    }

    public int rank(int ranker, int question, int document) {
        Row row = placeOf(ranker, question);
        if (row == null || !isDocument(document)) {
            return NO_SUCH;
        }
        if (row.rankOf(document) > 0) {
            return NOT_AS_THINGS_STAND;
        }
        if (row.size() >= LONGEST) {
            return NO_ROOM;
        }
        row.append(document);
        return row.size();
    }

    public int empty(int ranker, int question) {
        Row row = placeOf(ranker, question);
        if (row == null) {
            return NO_SUCH;
        }
        int before = row.size();
        row.clear(true);
        return before;
    }

    public int drop(int ranker, int question) {
        Row row = rowOf(ranker, question);
        if (row == null) {
            return NO_SUCH;
        }
        row.clear(false);
        return 1;
    }

    public int at(int ranker, int question, int rank) {
        Row row = rowOf(ranker, question);
        if (row == null) {
            return NO_SUCH;
        }
        int document = row.documentAt(rank);
        return document == NONE ? OUTSIDE : document;
    }

    public int count(int question, int what) {
        Question asked = questionOf(question);
        if (asked == null) {
            return NO_SUCH;
        }
        switch (what) {
            case 0:
                return asked.goodOnes();
            case 1:
                return asked.gradedWith(0);
            case 2:
                return asked.toldRows();
            default:
                return OUTSIDE;
        }
    }

    public int measure(int ranker, int question, int what, int k) {
        Question asked = questionOf(question);
        Row row = rowOf(ranker, question);
        if (asked == null || row == null) {
            return NO_SUCH;
        }
        if (!isMeasure(what) || !isDepth(k)) {
            return OUTSIDE;
        }
        Measures.put(board, asked, row, what, k);
        return 1;
    }

    public long top() {
        return board.above();
    }

    public long bottom() {
        return board.below();
    }

    public long gain(int ranker, int question, int k, boolean high) {
        Question asked = questionOf(question);
        Row row = rowOf(ranker, question);
        if (asked == null || row == null) {
            return NO_SUCH;
        }
        if (!isDepth(k)) {
            return OUTSIDE;
        }
        return Logarithms.gainOf(asked, row, k, high);
    }

    public int mean(int ranker, int what, int k) {
        if (!isRanker(ranker)) {
            return NO_SUCH;
        }
        if (!hasMean(what) || !isDepth(k)) {
            return OUTSIDE;
        }
        int counted = addUp(ranker, what, k);
        if (counted == 0) {
            return NOT_AS_THINGS_STAND;
        }
        board.become(total.above(), total.below() * counted);
        return counted;
    }

    public int odds(int one, int other, int what, int k) {
        int counted = meet(one, other, what, k);
        if (counted > 0) {
            board.become(contest.waysAsFarApart(), 1L << counted);
        }
        return counted;
    }

    public int wins(int one, int other, int what, int k, int which) {
        if (!isRanker(one) || !isRanker(other)) {
            return NO_SUCH;
        }
        if (which < 0 || which > 2) {
            return OUTSIDE;
        }
        int counted = meet(one, other, what, k);
        if (counted < 0) {
            return counted;
        }
        if (which == 2) {
            return contest.differencesWithSign(0);
        }
        return contest.differencesWithSign(which == 0 ? 1 : -1);
    }

    public int likeness(int one, int other, int question) {
        Row first = rowOf(one, question);
        Row second = rowOf(other, question);
        if (first == null || second == null) {
            return NO_SUCH;
        }
        return Pairs.putLikeness(board, first, second);
    }

    public int overlap(int one, int other, int question, int k) {
        Row first = rowOf(one, question);
        Row second = rowOf(other, question);
        if (first == null || second == null) {
            return NO_SUCH;
        }
        if (!isDepth(k)) {
            return OUTSIDE;
        }
        Pairs.putOverlap(board, first, second, k);
        return 1;
    }

    public int pool(int question, int k, int i) {
        Question asked = questionOf(question);
        if (asked == null) {
            return NO_SUCH;
        }
        if (!isDepth(k)) {
            return OUTSIDE;
        }
        int document = asked.pooled(k, i);
        return document == NONE ? NOT_AS_THINGS_STAND : document;
    }

    public int laid(int one, int other, int question, int seed, int i) {
        Row first = rowOf(one, question);
        Row second = rowOf(other, question);
        if (first == null || second == null) {
            return NO_SUCH;
        }
        mix.lay(first, second, seed);
        int document = mix.documentAt(i);
        if (document == NONE) {
            return NOT_AS_THINGS_STAND;
        }
        return mix.isFromSecond(i) ? document + OF_SECOND_ROW : document;
    }

    public int clicks(int one, int other, int question, int seed) {
        Question asked = questionOf(question);
        Row first = rowOf(one, question);
        Row second = rowOf(other, question);
        if (asked == null || first == null || second == null) {
            return NO_SUCH;
        }
        mix.lay(first, second, seed);
        mix.click(asked);
        return mix.firstClicks() + OF_SECOND_ROW * mix.secondClicks();
    }

    public int prefer(int one, int other, int question, int seed, int n) {
        Question asked = questionOf(question);
        Row first = rowOf(one, question);
        Row second = rowOf(other, question);
        if (asked == null || first == null || second == null) {
            return NO_SUCH;
        }
        if (n < 1 || n > MOST_SEEDS) {
            return OUTSIDE;
        }
        int preferred = 0;
        for (int i = 0; i < n; i++) {
            mix.lay(first, second, seed + i);
            mix.click(asked);
            if (mix.firstClicks() > mix.secondClicks()) {
                preferred += 1;
            } else if (mix.firstClicks() < mix.secondClicks()) {
                preferred += OF_SECOND_ROW;
            }
        }
        return preferred;
    }

    private static boolean isRanker(int ranker) {
        return ranker >= 0 && ranker < RANKERS;
    }

    private static boolean isDocument(int document) {
        return document >= 0 && document < DOCUMENTS;
    }

    private static boolean isDepth(int k) {
        return k >= 1 && k <= LONGEST;
    }

    private static boolean isMeasure(int what) {
        return what >= PRECISION && what <= SURE;
    }

    private static boolean hasMean(int what) {
        return isMeasure(what) && what != GAIN && what != SHARE;
    }

    /** The question of a number, or null. */
    private Question questionOf(int question) {
        return question >= 0 && question < QUESTIONS ? questions[question] : null;
    }

    /** Where a ranker's row stands, or would stand if it were told; null without such a ranker or question. */
    private Row placeOf(int ranker, int question) {
        Question asked = questionOf(question);
        return asked == null ? null : asked.rowPlace(ranker);
    }

    /** A row that was told, or null. */
    private Row rowOf(int ranker, int question) {
        Row row = placeOf(ranker, question);
        return row == null || !row.isTold() ? null : row;
    }

    /** A row that counts for means and odds, or null. */
    private Row countingRow(int ranker, int question) {
        Question asked = questionOf(question);
        return asked == null || asked.goodOnes() == 0 ? null : rowOf(ranker, question);
    }

    /** Leaves the sum of a measure in total, and answers over how many questions it goes. */
    private int addUp(int ranker, int what, int k) {
        int counted = 0;
        total.become(0, 1);
        for (int i = 0; i < QUESTIONS; i++) {
            Question asked = questionOf(i);
            Row row = countingRow(ranker, i);
            if (asked != null && row != null) {
                Measures.put(value, asked, row, what, k);
                total.add(value, 1);
                counted++;
            }
        }
        return counted;
    }

    /** Leaves the differences of two rankers in the contest, and answers how many these are, or the refusal. */
    private int meet(int one, int other, int what, int k) {
        if (!isRanker(one) || !isRanker(other)) {
            return NO_SUCH;
        }
        if (!hasMean(what) || !isDepth(k)) {
            return OUTSIDE;
        }
        if (one == other) {
            return NOT_AS_THINGS_STAND;
        }
        contest.clear();
        for (int i = 0; i < QUESTIONS; i++) {
            Question asked = questionOf(i);
            Row first = countingRow(one, i);
            Row second = countingRow(other, i);
            if (asked != null && first != null && second != null) {
                Measures.put(total, asked, first, what, k);
                Measures.put(value, asked, second, what, k);
                total.add(value, -1);
                contest.append(total);
            }
        }
        return contest.size() == 0 ? NOT_AS_THINGS_STAND : contest.size();
    }

    /** At least 1, so that it may always divide. */
    private static long commonDivisor(long one, long other) {
        long larger = Math.abs(one);
        long smaller = Math.abs(other);
        for (int i = 0; i < MOST_DIVISIONS && smaller != 0; i++) {
            long rest = larger % smaller;
            larger = smaller;
            smaller = rest;
        }
        return Math.max(larger, 1);
    }

    private static long commonMultiple(long one, long other) {
        return one / commonDivisor(one, other) * other;
    }

    /** The documents that a ranker has for a question, in order. */
    private static final class Row {
        private final int[] documents = new int[LONGEST];
        private int size;
        private boolean told;

        int size() {
            return size;
        }

        boolean isTold() {
            return told;
        }

        /** The document of a rank (from 1), or NONE. */
        int documentAt(int rank) {
            return rank >= 1 && rank <= size && rank <= LONGEST ? documents[rank - 1] : NONE;
        }

        /** The rank of a document, or 0. */
        int rankOf(int document) {
            for (int i = 0; i < size && i < LONGEST; i++) {
                if (documents[i] == document) {
                    return i + 1;
                }
            }
            return 0;
        }

        boolean hasAmongFirst(int k, int document) {
            int rank = rankOf(document);
            return rank > 0 && rank <= k;
        }

        void append(int document) {
            if (size >= 0 && size < LONGEST) {
                documents[size] = document;
                size++;
                told = true;
            }
        }

        void clear(boolean stillTold) {
            size = 0;
            told = stillTold;
        }
    }

    /** The grades of a question's documents, and a place for each ranker's row. */
    private static final class Question {
        private final int[] grades = new int[DOCUMENTS];
        private final Row[] rows = new Row[RANKERS];

        Question() {
            Arrays.fill(grades, NONE);
            for (int i = 0; i < RANKERS; i++) {
                rows[i] = new Row();
            }
        }

        Row rowPlace(int ranker) {
            return ranker >= 0 && ranker < RANKERS ? rows[ranker] : null;
        }

        /** NONE also for what is no document, as a rank behind a row's end has none. */
        int gradeOf(int document) {
            return document >= 0 && document < DOCUMENTS ? grades[document] : NONE;
        }

        boolean isGood(int document) {
            return gradeOf(document) >= 1;
        }

        void judge(int document, int grade) {
            if (document >= 0 && document < DOCUMENTS) {
                grades[document] = grade;
            }
        }

        int gradedWith(int grade) {
            int found = 0;
            for (int i = 0; i < DOCUMENTS; i++) {
                if (grades[i] == grade) {
                    found++;
                }
            }
            return found;
        }

        int goodOnes() {
            int found = 0;
            for (int i = 0; i < DOCUMENTS; i++) {
                if (grades[i] >= 1) {
                    found++;
                }
            }
            return found;
        }

        int toldRows() {
            int found = 0;
            for (int i = 0; i < RANKERS; i++) {
                Row row = rows[i];
                if (row != null && row.isTold()) {
                    found++;
                }
            }
            return found;
        }

        /** The document with so many of the pool before it, or NONE. */
        int pooled(int k, int before) {
            int passed = 0;
            for (int document = 0; document < DOCUMENTS; document++) {
                if (grades[document] == NONE && isAmongFirst(k, document)) {
                    if (passed == before) {
                        return document;
                    }
                    passed++;
                }
            }
            return NONE;
        }

        private boolean isAmongFirst(int k, int document) {
            for (int i = 0; i < RANKERS; i++) {
                Row row = rows[i];
                if (row != null && row.hasAmongFirst(k, document)) {
                    return true;
                }
            }
            return false;
        }
    }

    /** A fraction in least numbers; what is divided by 0 is 0. */
    private static final class Fraction {
        private long above;
        private long below = 1;

        long above() {
            return above;
        }

        long below() {
            return below;
        }

        void become(long newAbove, long newBelow) {
            if (newBelow < 1) {
                above = 0;
                below = 1;
                return;
            }
            long divisor = commonDivisor(newAbove, newBelow);
            above = newAbove / divisor;
            below = newBelow / divisor;
        }

        /** Over the least common multiple: with AVERAGE of 8 questions a product of all would not fit a long. */
        void add(Fraction other, long times) {
            if (below < 1 || other.below < 1) {
                return;
            }
            long common = commonMultiple(below, other.below);
            become(above * (common / below) + times * other.above * (common / other.below), common);
        }
    }

    /** The measures of a row's first k documents. */
    private static final class Measures {
        static void put(Fraction shown, Question question, Row row, int what, int k) {
            int found = goodAmong(question, row, k);
            switch (what) {
                case PRECISION:
                    shown.become(found, k);
                    break;
                case RECALL:
                    shown.become(found, question.goodOnes());
                    break;
                case AVERAGE:
                    shown.become(averageParts(question, row, k), PARTS * question.goodOnes());
                    break;
                case FIRST:
                    shown.become(1, firstGoodRank(question, row, k));
                    break;
                case GAIN:
                    shown.become(gainParts(question, row, k), PARTS);
                    break;
                case SHARE:
                    shown.become(gainParts(question, row, k), bestGainParts(question, k));
                    break;
                case PREFERENCE:
                    putPreference(shown, question, row, k);
                    break;
                case UNJUDGED:
                    shown.become(Math.min(k, row.size()) - judgedAmong(question, row, k), 1);
                    break;
                case SURE:
                    shown.become(found, judgedAmong(question, row, k));
                    break;
                default:
                    shown.become(0, 1);
                    break;
            }
        }

        private static int goodAmong(Question question, Row row, int k) {
            int found = 0;
            for (int rank = 1; rank <= k; rank++) {
                if (question.isGood(row.documentAt(rank))) {
                    found++;
                }
            }
            return found;
        }

        private static int judgedAmong(Question question, Row row, int k) {
            int found = 0;
            for (int rank = 1; rank <= k; rank++) {
                if (question.gradeOf(row.documentAt(rank)) != NONE) {
                    found++;
                }
            }
            return found;
        }

        private static long averageParts(Question question, Row row, int k) {
            long sum = 0;
            int found = 0;
            for (int rank = 1; rank <= k; rank++) {
                if (question.isGood(row.documentAt(rank))) {
                    found++;
                    sum += found * (PARTS / rank);
                }
            }
            return sum;
        }

        /** 0 without one: FIRST, divided by that, is then 0 as well. */
        private static int firstGoodRank(Question question, Row row, int k) {
            for (int rank = 1; rank <= k; rank++) {
                if (question.isGood(row.documentAt(rank))) {
                    return rank;
                }
            }
            return 0;
        }

        private static long gainParts(Question question, Row row, int k) {
            long sum = 0;
            for (int rank = 1; rank <= k; rank++) {
                sum += weightOf(question.gradeOf(row.documentAt(rank))) * (PARTS / rank);
            }
            return sum;
        }

        private static long bestGainParts(Question question, int k) {
            long sum = 0;
            int rank = 1;
            for (int grade = HIGHEST_GRADE; grade >= 1; grade--) {
                int behind = rank + question.gradedWith(grade);
                for (; rank >= 1 && rank < behind && rank <= k; rank++) {
                    sum += weightOf(grade) * (PARTS / rank);
                }
            }
            return sum;
        }

        /** What a document brings by its grade; nothing, if it is not good. */
        static long weightOf(int grade) {
            return grade >= 1 && grade <= HIGHEST_GRADE ? (1L << grade) - 1 : 0;
        }

        private static void putPreference(Fraction shown, Question question, Row row, int k) {
            int good = question.goodOnes();
            int most = Math.min(good, question.gradedWith(0));
            if (most == 0) {
                shown.become(goodAmong(question, row, k), good);
                return;
            }
            long sum = 0;
            int before = 0;
            for (int rank = 1; rank <= k; rank++) {
                int grade = question.gradeOf(row.documentAt(rank));
                if (grade == 0) {
                    before++;
                } else if (grade >= 1) {
                    sum += most - Math.min(before, most);
                }
            }
            shown.become(sum, (long) most * good);
        }
    }

    /** Gains by logarithms, enclosed from below and above. */
    private static final class Logarithms {
        static long gainOf(Question question, Row row, int k, boolean high) {
            long sum = 0;
            for (int rank = 1; rank <= k; rank++) {
                long weight = Measures.weightOf(question.gradeOf(row.documentAt(rank))) << GAIN_BITS;
                long log = logOf(rank + 1);
                if (log > 0) {
                    sum += high ? (weight + log - 1) / log : weight / (log + 1);
                }
            }
            return sum;
        }

        /** In 2^-20, for n from 2 to 17; 0 below. */
        private static long logOf(int n) {
            if (n < 2) {
                return 0;
            }
            int whole = 31 - Integer.numberOfLeadingZeros(n);
            long rest = ((long) n << KEPT_BITS) >> whole;
            long log = whole;
            for (int i = 0; i < LOG_BITS; i++) {
                rest = (rest * rest) >> KEPT_BITS;
                log = log << 1;
                if (rest >= 2L << KEPT_BITS) {
                    rest = rest >> 1;
                    log++;
                }
            }
            return log;
        }
    }

    /** The differences of two rankers, as whole numbers of one common part. */
    private static final class Contest {
        private final long[] differences = new long[QUESTIONS];
        private long common = 1;
        private int size;

        int size() {
            return size;
        }

        void clear() {
            common = 1;
            size = 0;
        }

        void append(Fraction difference) {
            if (size < 0 || size >= QUESTIONS || common < 1 || difference.below() < 1) {
                return;
            }
            long finer = commonMultiple(common, difference.below());
            for (int i = 0; i < size && i < QUESTIONS; i++) {
                differences[i] *= finer / common;
            }
            differences[size] = difference.above() * (finer / difference.below());
            common = finer;
            size++;
        }

        int differencesWithSign(int sign) {
            int found = 0;
            for (int i = 0; i < size && i < QUESTIONS; i++) {
                if (Long.signum(differences[i]) == sign) {
                    found++;
                }
            }
            return found;
        }

        /** Of all ways to turn signs, those whose sum is as far from 0 as the differences' own, or farther. */
        long waysAsFarApart() {
            long sum = 0;
            for (int i = 0; i < size && i < QUESTIONS; i++) {
                sum += differences[i];
            }
            return waysBehind(differences, size, 0, 0, Math.abs(sum));
        }

        /** The ways that are left when the first signs are chosen and their sum is known. */
        private static long waysBehind(long[] differences, int size, int chosen, long sum, long least) {
            if (chosen < 0 || chosen >= size || chosen >= differences.length) {
                return Math.abs(sum) >= least ? 1 : 0;
            }
            long next = differences[chosen];
            return waysBehind(differences, size, chosen + 1, sum + next, least)
                    + waysBehind(differences, size, chosen + 1, sum - next, least);
        }
    }

    /** How like two rows are. */
    private static final class Pairs {
        /** Answers how many pairs there are. */
        static int putLikeness(Fraction shown, Row first, Row second) {
            int pairs = 0;
            int alike = 0;
            for (int rank = 2; rank <= first.size(); rank++) {
                int later = second.rankOf(first.documentAt(rank));
                for (int before = 1; before < rank && later > 0; before++) {
                    int earlier = second.rankOf(first.documentAt(before));
                    if (earlier > 0) {
                        pairs++;
                        alike += earlier < later ? 1 : -1;
                    }
                }
            }
            shown.become(alike, pairs);
            return pairs;
        }

        static void putOverlap(Fraction shown, Row first, Row second, int k) {
            long sum = 0;
            for (int depth = 1; depth <= k; depth++) {
                sum += sharedAmong(first, second, depth) * (PARTS / depth);
            }
            shown.become(sum, PARTS * k);
        }

        private static int sharedAmong(Row first, Row second, int depth) {
            int shared = 0;
            for (int rank = 1; rank <= depth && rank <= first.size(); rank++) {
                if (second.hasAmongFirst(depth, first.documentAt(rank))) {
                    shared++;
                }
            }
            return shared;
        }
    }

    /** Two rows laid into one another by draws, and the clicks by the draws that follow. */
    private static final class Mix {
        private final int[] documents = new int[LONGEST];
        private final boolean[] fromSecond = new boolean[LONGEST];
        private int size;
        private int drawn;
        private int firstClicks;
        private int secondClicks;
        // A bit for each document.
        private int taken;

        int firstClicks() {
            return firstClicks;
        }

        int secondClicks() {
            return secondClicks;
        }

        /** The document of a place (from 0), or NONE. */
        int documentAt(int i) {
            return i >= 0 && i < size && i < LONGEST ? documents[i] : NONE;
        }

        boolean isFromSecond(int i) {
            return i >= 0 && i < LONGEST && fromSecond[i];
        }

        void lay(Row first, Row second, int seed) {
            drawn = seed;
            size = 0;
            taken = 0;
            // Each round lays one document or more.
            for (int round = 0; round < LONGEST && canLay(first, second); round++) {
                if (draw() % 2 == 0) {
                    layNext(first, false);
                    layNext(second, true);
                } else {
                    layNext(second, true);
                    layNext(first, false);
                }
            }
        }

        void click(Question question) {
            firstClicks = 0;
            secondClicks = 0;
            boolean ended = false;
            for (int i = 0; i < size && i < LONGEST && !ended; i++) {
                if (draw() % 100 < clickChance(question.gradeOf(documents[i]))) {
                    if (fromSecond[i]) {
                        secondClicks++;
                    } else {
                        firstClicks++;
                    }
                    ended = draw() % 100 < END_CHANCE;
                }
            }
        }

        private static int clickChance(int grade) {
            int i = grade + 1;
            return i >= 0 && i < CLICK_CHANCES.length ? CLICK_CHANCES[i] : 0;
        }

        private int draw() {
            drawn = 1664525 * drawn + 1013904223;
            return drawn >>> 16;
        }

        private boolean canLay(Row first, Row second) {
            return size < LONGEST && (firstNotLaid(first) != NONE || firstNotLaid(second) != NONE);
        }

        private int firstNotLaid(Row row) {
            for (int rank = 1; rank <= row.size(); rank++) {
                int document = row.documentAt(rank);
                if ((taken >>> document & 1) == 0) {
                    return document;
                }
            }
            return NONE;
        }

        private void layNext(Row row, boolean isSecond) {
            int document = firstNotLaid(row);
            if (document == NONE || size < 0 || size >= LONGEST) {
                return;
            }
            documents[size] = document;
            fromSecond[size] = isSecond;
            taken |= 1 << document;
            size++;
        }
    }
}
