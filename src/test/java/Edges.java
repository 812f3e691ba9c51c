/** Tries boundary cases: each stands for a promise and a sentence of the document, and is named by these. */
final class Edges {
    static final int LEAST = Integer.MIN_VALUE;
    static final int GREATEST = Integer.MAX_VALUE;
    static final String REFUSED = "Refused, and nothing is changed: -1 no such QUESTION, RANKER, DOCUMENT, ROW";
    static final String FIRST_THAT_FITS = "-2 a number outside what is told, -3 not as things stand, -4 "
                + "no room: the first that fits.";
    static final String QUESTIONS = "1 QUESTIONS 0 ..";
    static final String NUMBERS = "7, RANKERS 0 .. 3, DOCUMENTS 0 .. 23 (of each QUESTION its own).";
    static final String DEPTHS = "2 MEASURES of a ROW, with k (1 .. 16), the first k of it (all, if there are fewer)";
    static final String DIVIDED_BY_ZERO = "what is divided by 0 is 0.";
    static final int[] NO_QUESTION = {-1, 8, LEAST, GREATEST};
    static final int[] NO_RANKER = {-1, 4, LEAST, GREATEST};
    static final int[] NO_DOCUMENT = {-1, 24, LEAST, GREATEST};
    static final int[] NO_DEPTH = {0, 17, -1, LEAST, GREATEST};

    private final Check check = new Check();
    private final Document document = Document.read();
    private String name = "";
    private int sentences;
    private int answers = 1;

    /** A new bench, on which a sentence is tried for a promise. */
    Asked of(int promise, String sentence) {
        endSentence();
        name = "promise " + promise + ", '" + sentence + "': ";
        sentences++;
        if (document.isThere()) {
            check.dueTrue(name + "such a sentence stands", document.quote(promise, sentence));
        }
        return new Asked(this);
    }

    private void endSentence() {
        check.dueTrue(name + "it is tried", answers > 0);
        answers = 0;
    }

    void due(String call, long got, long want) {
        answers++;
        check.due(name + call, got, want);
    }

    void dueTrue(String what, boolean holds) {
        check.dueTrue(name + what, holds);
    }

    void end() {
        endSentence();
        if (document.isThere()) {
            for (String piece : document.unquoted()) {
                check.dueTrue("a boundary case quotes: " + piece, false);
            }
        }
        System.out.println(sentences + " boundary cases");
        check.end();
    }
}
