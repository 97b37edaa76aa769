/** Compares answers with those due, and ends a test with exit code 1 when one was wrong. */
final class Answers {
    private static final int MOST_TOLD = 50;

    private int wrong;
    private int asked;
    private int askedBefore;
    private String sentence = "";

    /** Tells the document's words that all is due by from here on. */
    void sentence(String words) {
        endSentence();
        sentence = words;
        askedBefore = asked;
    }

    /** A sentence that nothing was asked of is not tested. */
    private void endSentence() {
        if (asked == askedBefore && !sentence.isEmpty()) {
            tellWrong("nothing was asked");
        }
    }

    void due(String call, long got, long want) {
        asked++;
        if (got != want) {
            tellWrong(call + " answered " + got + ", due is " + want);
        }
    }

    void due(String call, boolean got, boolean want) {
        asked++;
        if (got != want) {
            tellWrong(call + " answered " + got + ", due is " + want);
        }
    }

    void due(String call, String got, String want) {
        asked++;
        if (!got.equals(want)) {
            tellWrong(call + " answered " + got + ", due is " + want);
        }
    }

    private void tellWrong(String what) {
        wrong++;
        if (wrong <= MOST_TOLD) {
            System.out.println((sentence.isEmpty() ? "" : "\"" + sentence + "\": ") + what);
        }
    }

    int asked() {
        return asked;
    }

    boolean isWrong() {
        return wrong > 0;
    }

    void end() {
        endSentence();
        System.out.println(asked + " answers, " + wrong + " of them wrong");
        if (wrong > 0 || asked == 0) {
            System.exit(1);
        }
    }
}
