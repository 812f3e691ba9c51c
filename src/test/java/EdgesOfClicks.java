/** Boundary cases of promises 18 to 20: rows laid into one another, clicks on these, and what clicks prefer. */
final class EdgesOfClicks {
    private static final int[] SEEDS = {0, 1, 2, -1, Edges.GREATEST, Edges.LEAST};
    private static final int[] NO_NUMBER_OF_SEEDS = {0, 51, -1, Edges.LEAST, Edges.GREATEST};
    /** The first draw by it is even, by the other odd. */
    private static final int EVEN = 0;
    private static final int ODD = 2;

    private final Edges edges;

    EdgesOfClicks(Edges edges) {
        this.edges = edges;
    }

    void tryAll() {
        laidByDraws();
        laidByManyDraws();
        laidBegins();
        laidAsLongAs();
        laidNotLaidYet();
        laidSixteen();
        laidBySecond();
        laidCorners();
        laidOfOneRow();
        laidNotSoMany();
        laidRefused();
        laidFirstThatFits();
        clicksFollow();
        clicksBelow();
        clicksWithoutSign();
        clicksEnd();
        clicksOnlyBehindClicks();
        clicksOfSides();
        clicksOfNothing();
        clicksCorners();
        clicksRefused();
        preferSeeds();
        preferWraps();
        preferMore();
        preferAll();
        preferCorners();
        preferRefused();
        preferFirstThatFits();
    }

    private void laidByDraws() {
        Asked x = edges.of(18, "LAID of two ROWS by a seed: a ROW of DRAWS: z is the seed at first; for "
                + "each draw z becomes 1664525 z + 1013904223 (of 32 bits);");
        x.row(0, 0, 5);
        x.row(1, 0, 6);
        int[] firstLaid = {5, 5, 106, 106, 106, 5};
        int[] thenLaid = {106, 106, 5, 5, 5, 106};
        for (int s = 0; s < SEEDS.length; s++) {
            x.due(firstLaid[s]).laid(0, 1, 0, SEEDS[s], 0);
            x.due(thenLaid[s]).laid(0, 1, 0, SEEDS[s], 1);
        }
    }

    /** Each of the eight rounds has its own draw. */
    private void laidByManyDraws() {
        Asked x = edges.of(18, "it gives z shifted right by 16, without sign.");
        x.rowRange(0, 0, 0, 12);
        x.rowRange(1, 0, 12, 24);
        for (int seed : SEEDS) {
            for (int round = 0; round < 8; round++) {
                boolean even = Draws.nth(seed, round + 1) % 2 == 0;
                x.due(even ? round : 112 + round).laid(0, 1, 0, seed, 2 * round);
                x.due(even ? 112 + round : round).laid(0, 1, 0, seed, 2 * round + 1);
            }
            x.due(-3).laid(0, 1, 0, seed, 16);
        }
    }

    private void laidBegins() {
        Asked x = edges.of(18, "if it is even the first ROW begins, else the second;");
        x.row(0, 0, 5);
        x.row(1, 0, 6);
        x.due(5).laid(0, 1, 0, EVEN, 0);
        x.due(106).laid(0, 1, 0, ODD, 0);
        x.due(6).laid(1, 0, 0, EVEN, 0);
        x.due(105).laid(1, 0, 0, ODD, 0);
    }

    private void laidAsLongAs() {
        Asked x = edges.of(18, "As long as both have DOCUMENTS that are not laid yet, or one has, and "
                + "less than 16 are laid: a draw:");
        x.row(0, 0);
        x.row(1, 0);
        x.due(-3).laid(0, 1, 0, EVEN, 0);
        x.row(1, 0, 4, 5, 6);
        for (int i = 0; i < 3; i++) {
            x.due(104 + i).laid(0, 1, 0, EVEN, i);
            x.due(4 + i).laid(1, 0, 0, ODD, i);
        }
        x.due(-3).laid(0, 1, 0, EVEN, 3);
        x.row(0, 0, 4);
        x.due(4).laid(0, 1, 0, EVEN, 0);
        x.due(105).laid(0, 1, 0, EVEN, 1);
        x.due(106).laid(0, 1, 0, EVEN, 2);
        x.due(-3).laid(0, 1, 0, EVEN, 3);
    }

    private void laidNotLaidYet() {
        Asked x = edges.of(18, "one after the other lays its first DOCUMENT that is not laid yet (one "
                + "that has none lays nothing),");
        x.row(0, 0, 0, 1, 2);
        x.row(1, 0, 0, 1, 3);
        x.due(0).laid(0, 1, 0, EVEN, 0);
        x.due(101).laid(0, 1, 0, EVEN, 1);
        x.due(100).laid(0, 1, 0, ODD, 0);
        x.due(1).laid(0, 1, 0, ODD, 1);
        x.due(-3).laid(0, 1, 0, EVEN, 4);
        x.row(1, 0, 0);
        x.due(0).laid(0, 1, 0, EVEN, 0);
        x.due(1).laid(0, 1, 0, EVEN, 1);
        x.due(2).laid(0, 1, 0, EVEN, 2);
        x.due(-3).laid(0, 1, 0, EVEN, 3);
        x.due(100).laid(0, 1, 0, ODD, 0);
        x.due(1).laid(0, 1, 0, ODD, 1);
        x.row(0, 0, 0);
        x.due(0).laid(0, 1, 0, EVEN, 0);
        x.due(100).laid(0, 1, 0, ODD, 0);
        x.due(-3).laid(0, 1, 0, EVEN, 1);
        x.due(-3).laid(0, 1, 0, ODD, 1);
    }

    private void laidSixteen() {
        Asked x = edges.of(18, "the second of them only if less than 16 are laid.");
        x.rowRange(0, 0, 0, 16);
        x.row(1, 0, 16);
        x.due(116).laid(0, 1, 0, EVEN, 1);
        x.due(14).laid(0, 1, 0, EVEN, 15);
        x.due(-3).laid(0, 1, 0, EVEN, 16);
        x.rowRange(1, 0, 8, 24);
        for (int seed : SEEDS) {
            edges.dueTrue("the sixteenth is laid", x.laid(0, 1, 0, seed, 15) >= 0);
            x.due(-3).laid(0, 1, 0, seed, 16);
        }
        x.rowRange(1, 0, 0, 16);
        x.due(-3).laid(0, 1, 0, EVEN, 16);
        x.due(15).laid(0, 1, 0, EVEN, 15);
        x.row(1, 0);
        x.due(15).laid(0, 1, 0, EVEN, 15);
        x.due(-3).laid(0, 1, 0, EVEN, 16);
        x.due(115).laid(1, 0, 0, EVEN, 15);
        x.due(-3).laid(1, 0, 0, EVEN, 16);
    }

    private void laidBySecond() {
        Asked x = edges.of(18, "LAID: DOCUMENT i (from 0), and 100 if the second ROW laid it.");
        x.row(0, 0, 23, 0);
        x.row(1, 0);
        x.due(23).laid(0, 1, 0, EVEN, 0);
        x.due(0).laid(0, 1, 0, EVEN, 1);
        x.due(123).laid(1, 0, 0, EVEN, 0);
        x.due(100).laid(1, 0, 0, EVEN, 1);
    }

    private void laidCorners() {
        Asked x = edges.of(18, Edges.NUMBERS);
        x.row(0, 0, 1);
        x.row(3, 0, 2);
        x.row(0, 7, 3);
        x.row(3, 7, 4);
        x.due(1).laid(0, 3, 0, EVEN, 0);
        x.due(102).laid(0, 3, 0, EVEN, 1);
        x.due(4).laid(3, 0, 7, EVEN, 0);
        x.due(103).laid(3, 0, 7, EVEN, 1);
        x.due(-1).laid(0, 3, 6, EVEN, 0);
    }

    /** No refusal for it is told: two rankers may be one. */
    private void laidOfOneRow() {
        Asked x = edges.of(18, "LAID of two ROWS by a seed");
        x.row(0, 0, 7, 8, 9);
        x.due(7).laid(0, 0, 0, EVEN, 0);
        x.due(108).laid(0, 0, 0, EVEN, 1);
        x.due(107).laid(0, 0, 0, ODD, 0);
        x.due(8).laid(0, 0, 0, ODD, 1);
        x.due(-3).laid(0, 0, 0, EVEN, 3);
    }

    private void laidNotSoMany() {
        Asked x = edges.of(18, "-3: there are not so many.").standard();
        int[] outside = {16, 17, -1, Edges.LEAST, Edges.GREATEST};
        for (int i : outside) {
            x.due(-3).laid(0, 1, 0, EVEN, i);
        }
        x.due(2).laid(0, 2, 0, EVEN, 2);
        x.due(-3).laid(0, 2, 0, EVEN, 3);
        x.due(-3).laid(2, 2, 0, EVEN, 0);
        x.isStandard();
    }

    private static void laidNoSuch(Asked x) {
        for (int question : Edges.NO_QUESTION) {
            x.due(-1).laid(0, 1, question, 0, 0);
        }
        for (int ranker : Edges.NO_RANKER) {
            x.due(-1).laid(ranker, 0, 0, 0, 0);
            x.due(-1).laid(0, ranker, 0, 0, 0);
            x.due(-1).laid(ranker, ranker, 6, 0, 0);
        }
        x.due(-1).laid(3, 0, 0, 0, 0);
        x.due(-1).laid(0, 3, 0, 0, 0);
        x.due(-1).laid(0, 1, 7, 0, 0);
        x.due(-1).laid(1, 0, 7, 0, 0);
        x.due(-1).laid(3, 3, 0, 0, 0);
    }

    private void laidRefused() {
        laidNoSuch(edges.of(18, "-1;").standard());
        Asked x = edges.of(18, Edges.REFUSED).standard();
        laidNoSuch(x);
        x.due(-3).laid(0, 1, 0, 0, 16);
        x.isStandard();
    }

    private void laidFirstThatFits() {
        Asked x = edges.of(18, Edges.FIRST_THAT_FITS).standard();
        x.due(-1).laid(0, 3, 0, 0, 99);
        x.due(-1).laid(3, 0, 0, 0, -1);
        x.due(-1).laid(0, 1, 8, 0, 16);
        x.isStandard();
    }

    /** By its draws one click is due behind n draws that lay, but two or more behind n - 1 or n + 1. */
    private static int seedOfOneClick(int first, int n) {
        return Draws.seedFrom(first, seed -> Draws.ofHundred(seed, n) < 90
                && Draws.ofHundred(seed, n + 1) >= 50 && Draws.ofHundred(seed, n + 1) < 90
                && Draws.ofHundred(seed, n + 2) < 50 && Draws.ofHundred(seed, n + 3) >= 50
                && Draws.ofHundred(seed, n + 4) < 90);
    }

    /** Rows whose laying takes n draws; every document has grade 3. */
    private static void clicksBehind(Asked x, int n) {
        int seed = 0;
        for (int i = 0; i < 3; i++) {
            seed = seedOfOneClick(seed, n);
            boolean ofSecond = x.laid(0, 1, 0, seed, 0) >= 100;
            x.due(ofSecond ? 100 : 1).clicks(0, 1, 0, seed);
            seed++;
        }
    }

    private void clicksFollow() {
        Asked x = edges.of(19, "CLICKS on what is LAID, by the DRAWS that follow: from its first on, for "
                + "each DOCUMENT a draw,");
        x.gradeRange(0, 0, 24, 3);
        x.row(0, 0, 1, 2);
        x.row(1, 0, 3, 4);
        clicksBehind(x, 2);
        x.row(1, 0);
        clicksBehind(x, 2);
        x.row(0, 0, 1);
        x.row(1, 0, 2);
        clicksBehind(x, 1);
        x.row(0, 0, 1, 2);
        x.row(1, 0, 1, 2);
        clicksBehind(x, 1);
        x.rowRange(0, 0, 0, 16);
        x.row(1, 0);
        clicksBehind(x, 16);
        x.row(1, 0, 16);
        clicksBehind(x, 15);
        x.rowRange(1, 0, 8, 24);
        clicksBehind(x, 8);
        x.rowRange(1, 0, 0, 16);
        clicksBehind(x, 8);
    }

    /** One document is laid by the first draw; the second one tells of a click. */
    private void clicksBelow() {
        Asked x = edges.of(19, "taken % 100: below 10, 30, 60, 90 by its GRADE 0 .. 3 (20 without one) is a click;");
        int[] chances = {20, 10, 30, 60, 90};
        x.row(0, 0, 0);
        x.row(1, 0);
        for (int grade = -1; grade <= 3; grade++) {
            int chance = chances[grade + 1];
            x.grade(0, 0, grade);
            int below = Draws.seedFrom(0, seed -> Draws.ofHundred(seed, 2) == chance - 1);
            int not = Draws.seedFrom(0, seed -> Draws.ofHundred(seed, 2) == chance);
            int least = Draws.seedFrom(0, seed -> Draws.ofHundred(seed, 2) == 0);
            int greatest = Draws.seedFrom(0, seed -> Draws.ofHundred(seed, 2) == 99);
            x.due(1).clicks(0, 1, 0, below);
            x.due(0).clicks(0, 1, 0, not);
            x.due(1).clicks(0, 1, 0, least);
            x.due(0).clicks(0, 1, 0, greatest);
            x.due(100).clicks(1, 0, 0, below);
            x.due(0).clicks(1, 0, 0, not);
        }
    }

    /** Draws of 32768 and more would be below 0 with a sign, and then below every chance. */
    private void clicksWithoutSign() {
        Asked x = edges.of(19, "it gives z shifted right by 16, without sign.");
        x.row(0, 0, 0);
        x.row(1, 0);
        int seed = 0;
        for (int i = 0; i < 5; i++) {
            seed = Draws.seedFrom(seed, s -> Draws.nth(s, 2) >= 32768 && Draws.ofHundred(s, 2) >= 20);
            x.due(0).clicks(0, 1, 0, seed);
            seed = Draws.seedFrom(seed + 1, s -> Draws.nth(s, 2) >= 32768 && Draws.ofHundred(s, 2) < 20);
            x.due(1).clicks(0, 1, 0, seed);
            seed++;
        }
    }

    /** Two documents are laid by two draws; the third one clicks, the fourth ends it or not, the fifth clicks. */
    private void clicksEnd() {
        Asked x = edges.of(19, "behind a click one more draw % 100: below 50 ends it.");
        x.grades(0, 3, 3);
        x.row(0, 0, 0, 1);
        x.row(1, 0);
        int[] draws = {0, 49, 50, 99};
        int[] clicks = {1, 1, 2, 2};
        for (int i = 0; i < draws.length; i++) {
            int draw = draws[i];
            int seed = Draws.seedFrom(0, s -> Draws.ofHundred(s, 3) < 90 && Draws.ofHundred(s, 4) == draw
                    && Draws.ofHundred(s, 5) < 90);
            x.due(clicks[i]).clicks(0, 1, 0, seed);
            x.due(100 * clicks[i]).clicks(1, 0, 0, seed);
        }
    }

    private void clicksOnlyBehindClicks() {
        Asked x = edges.of(19, "behind a click one more draw % 100");
        x.grades(0, 3, 3);
        x.row(0, 0, 0, 1);
        x.row(1, 0);
        int seed = Draws.seedFrom(0, s -> Draws.ofHundred(s, 3) >= 90 && Draws.ofHundred(s, 4) >= 50
                && Draws.ofHundred(s, 4) < 90 && Draws.ofHundred(s, 5) >= 90);
        x.due(1).clicks(0, 1, 0, seed);
        seed = Draws.seedFrom(0, s -> Draws.ofHundred(s, 3) >= 90 && Draws.ofHundred(s, 4) >= 90
                && Draws.ofHundred(s, 5) < 90);
        x.due(0).clicks(0, 1, 0, seed);
    }

    /** One document of each row, laid by one draw: clicks on none, the one, the other, and both. */
    private void clicksOfSides() {
        Asked x = edges.of(19, "CLICKS on LAID: those on the first ROW's, and 100 times those on the second's.");
        x.grades(0, 3, 3);
        x.row(0, 0, 0);
        x.row(1, 0, 1);
        for (int parity = 0; parity < 2; parity++) {
            int due = parity;
            int none = Draws.seedFrom(0, s -> Draws.nth(s, 1) % 2 == due && Draws.ofHundred(s, 2) >= 90
                    && Draws.ofHundred(s, 3) >= 90);
            x.due(0).clicks(0, 1, 0, none);
            int before = Draws.seedFrom(0, s -> Draws.nth(s, 1) % 2 == due && Draws.ofHundred(s, 2) < 90
                    && Draws.ofHundred(s, 3) < 50);
            x.due(parity == 0 ? 1 : 100).clicks(0, 1, 0, before);
            int behind = Draws.seedFrom(0, s -> Draws.nth(s, 1) % 2 == due && Draws.ofHundred(s, 2) >= 90
                    && Draws.ofHundred(s, 3) < 90);
            x.due(parity == 0 ? 100 : 1).clicks(0, 1, 0, behind);
            int both = Draws.seedFrom(0, s -> Draws.nth(s, 1) % 2 == due && Draws.ofHundred(s, 2) < 90
                    && Draws.ofHundred(s, 3) >= 50 && Draws.ofHundred(s, 4) < 90);
            x.due(101).clicks(0, 1, 0, both);
        }
    }

    private void clicksOfNothing() {
        Asked x = edges.of(19, "(one that has none lays nothing)").standard();
        x.row(3, 0);
        for (int seed : SEEDS) {
            x.due(0).clicks(2, 3, 0, seed);
            x.due(0).clicks(2, 2, 0, seed);
        }
        x.drop(3, 0);
        x.isStandard();
    }

    private void clicksCorners() {
        Asked x = edges.of(19, Edges.NUMBERS);
        x.grade(0, 0, 3);
        x.grade(7, 23, 3);
        x.row(0, 0, 0);
        x.row(3, 0);
        x.row(0, 7);
        x.row(3, 7, 23);
        int seed = Draws.seedFrom(0, s -> Draws.ofHundred(s, 2) == 89);
        x.due(1).clicks(0, 3, 0, seed);
        x.due(100).clicks(3, 0, 0, seed);
        x.due(100).clicks(0, 3, 7, seed);
        x.due(1).clicks(3, 0, 7, seed);
        x.due(-1).clicks(0, 3, 6, seed);
        x.due(1).clicks(0, 3, 0, seed);
    }

    private static void clicksNoSuch(Asked x) {
        for (int question : Edges.NO_QUESTION) {
            x.due(-1).clicks(0, 1, question, 0);
        }
        for (int ranker : Edges.NO_RANKER) {
            x.due(-1).clicks(ranker, 0, 0, 0);
            x.due(-1).clicks(0, ranker, 0, 0);
            x.due(-1).clicks(ranker, ranker, 6, 0);
        }
        x.due(-1).clicks(3, 0, 0, 0);
        x.due(-1).clicks(0, 3, 0, 0);
        x.due(-1).clicks(0, 1, 7, 0);
        x.due(-1).clicks(1, 0, 7, 0);
        x.due(-1).clicks(3, 3, 0, 0);
    }

    private void clicksRefused() {
        clicksNoSuch(edges.of(19, "-1.").standard());
        Asked x = edges.of(19, Edges.REFUSED).standard();
        clicksNoSuch(x);
        x.isStandard();
    }

    /** A row of one document of grade 3 and an empty one: how many of n seeds bring a click. */
    private static int clicked(int seed, int n) {
        int found = 0;
        for (int i = 0; i < n; i++) {
            if (Draws.ofHundred(seed + i, 2) < 90) {
                found++;
            }
        }
        return found;
    }

    private static void preferFrom(Asked x, int seed, int n) {
        x.due(clicked(seed, n)).prefer(0, 1, 0, seed, n);
        x.due(100 * clicked(seed, n)).prefer(1, 0, 0, seed, n);
    }

    private static Asked oneDocument(Asked x) {
        x.grade(0, 0, 3);
        x.row(0, 0, 0);
        x.row(1, 0);
        return x;
    }

    private void preferSeeds() {
        Asked x = oneDocument(edges.of(20, "With seeds seed, seed + 1, .. (n of them, 1 .. 50):"));
        int no = Draws.seedFrom(0, seed -> Draws.ofHundred(seed, 2) == 90);
        int yes = Draws.seedFrom(0, seed -> Draws.ofHundred(seed, 2) == 89);
        x.due(0).prefer(0, 1, 0, no, 1);
        x.due(1).prefer(0, 1, 0, yes, 1);
        for (int n = 1; n <= 50; n++) {
            preferFrom(x, no, n);
        }
        int lastOfFifty = Draws.seedFrom(0, seed -> Draws.ofHundred(seed + 49, 2) < 90
                && Draws.ofHundred(seed + 50, 2) < 90);
        x.due(clicked(lastOfFifty, 49)).prefer(0, 1, 0, lastOfFifty, 49);
        x.due(clicked(lastOfFifty, 49) + 1).prefer(0, 1, 0, lastOfFifty, 50);
        x.due(-2).prefer(0, 1, 0, yes, 0);
        x.due(-2).prefer(0, 1, 0, yes, 51);
    }

    private void preferWraps() {
        Asked x = oneDocument(edges.of(20, "for each draw z becomes 1664525 z + 1013904223 (of 32 bits)"));
        for (int n = 1; n <= 50; n++) {
            preferFrom(x, Edges.GREATEST - 24, n);
            preferFrom(x, -25, n);
        }
        preferFrom(x, Edges.LEAST, 50);
        preferFrom(x, Edges.GREATEST, 50);
    }

    /** One document of each row, then two of the second: as many clicks on both count for neither. */
    private void preferMore() {
        Asked x = edges.of(20, "how often CLICKS on the first ROW's are more, and 100 times how often "
                + "those on the second's are.");
        x.gradeRange(0, 0, 3, 3);
        x.row(0, 0, 0);
        x.row(1, 0, 1);
        int both = Draws.seedFrom(0, s -> Draws.nth(s, 1) % 2 == 0 && Draws.ofHundred(s, 2) < 90
                && Draws.ofHundred(s, 3) >= 50 && Draws.ofHundred(s, 4) < 90);
        x.due(101).clicks(0, 1, 0, both);
        x.due(0).prefer(0, 1, 0, both, 1);
        int none = Draws.seedFrom(0, s -> Draws.ofHundred(s, 2) >= 90 && Draws.ofHundred(s, 3) >= 90);
        x.due(0).prefer(0, 1, 0, none, 1);
        int one = Draws.seedFrom(0, s -> Draws.nth(s, 1) % 2 == 0 && Draws.ofHundred(s, 2) < 90
                && Draws.ofHundred(s, 3) < 50);
        x.due(1).prefer(0, 1, 0, one, 1);
        int other = Draws.seedFrom(0, s -> Draws.nth(s, 1) % 2 == 1 && Draws.ofHundred(s, 2) < 90
                && Draws.ofHundred(s, 3) < 50);
        x.due(100).prefer(0, 1, 0, other, 1);
        x.rank(1, 0, 2);
        int three = Draws.seedFrom(0, s -> Draws.ofHundred(s, 3) < 90 && Draws.ofHundred(s, 4) >= 50
                && Draws.ofHundred(s, 5) < 90 && Draws.ofHundred(s, 6) >= 50 && Draws.ofHundred(s, 7) < 90);
        x.due(201).clicks(0, 1, 0, three);
        x.due(100).prefer(0, 1, 0, three, 1);
        x.due(1).prefer(1, 0, 0, three, 1);
    }

    /** Sixteen documents of grade 3 bring a click by each of these seeds. */
    private void preferAll() {
        Asked x = edges.of(20, "(n of them, 1 .. 50)");
        x.gradeRange(0, 0, 16, 3);
        x.rowRange(0, 0, 0, 16);
        x.row(1, 0);
        x.due(50).prefer(0, 1, 0, 0, 50);
        x.due(5000).prefer(1, 0, 0, 0, 50);
        x.due(1).prefer(0, 1, 0, 0, 1);
        x.due(100).prefer(1, 0, 0, 0, 1);
        x.row(0, 0);
        x.due(0).prefer(0, 1, 0, 0, 50);
    }

    private void preferCorners() {
        Asked x = edges.of(20, Edges.NUMBERS);
        x.grade(0, 0, 3);
        x.grade(7, 23, 3);
        x.row(0, 0, 0);
        x.row(3, 0);
        x.row(0, 7);
        x.row(3, 7, 23);
        int seed = Draws.seedFrom(0, s -> Draws.ofHundred(s, 2) == 89);
        x.due(1).prefer(0, 3, 0, seed, 1);
        x.due(100).prefer(0, 3, 7, seed, 1);
        x.due(-1).prefer(0, 3, 6, seed, 1);
        x.due(0).prefer(3, 3, 0, seed, 50);
    }

    private static void preferNoSuch(Asked x) {
        for (int question : Edges.NO_QUESTION) {
            x.due(-1).prefer(0, 1, question, 0, 1);
        }
        for (int ranker : Edges.NO_RANKER) {
            x.due(-1).prefer(ranker, 0, 0, 0, 1);
            x.due(-1).prefer(0, ranker, 0, 0, 1);
            x.due(-1).prefer(ranker, ranker, 6, 0, 1);
        }
        x.due(-1).prefer(3, 0, 0, 0, 1);
        x.due(-1).prefer(0, 3, 0, 0, 1);
        x.due(-1).prefer(0, 1, 7, 0, 1);
        x.due(-1).prefer(1, 0, 7, 0, 1);
        x.due(-1).prefer(3, 3, 0, 0, 1);
    }

    private static void preferOutside(Asked x) {
        for (int n : NO_NUMBER_OF_SEEDS) {
            x.due(-2).prefer(0, 1, 0, 0, n);
            x.due(-2).prefer(2, 2, 0, 0, n);
        }
    }

    private void preferRefused() {
        preferNoSuch(edges.of(20, "-1;").standard());
        preferOutside(edges.of(20, "-2.").standard());
        Asked x = edges.of(20, Edges.REFUSED).standard();
        preferNoSuch(x);
        preferOutside(x);
        x.isStandard();
    }

    private void preferFirstThatFits() {
        Asked x = edges.of(20, Edges.FIRST_THAT_FITS).standard();
        x.due(-1).prefer(0, 3, 0, 0, 0);
        x.due(-1).prefer(3, 0, 0, 0, 51);
        x.due(-1).prefer(0, 1, 8, 0, 0);
        x.due(-1).prefer(4, 1, 0, 0, 51);
        x.isStandard();
    }
}
