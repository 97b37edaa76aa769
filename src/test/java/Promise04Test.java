/** Promise 4: word. */
final class Promise04Test {
    private static final Answers DUE = new Answers();

    public static void main(String[] args) {
        itsNumber();
        fewerThanTwoLetters();
        twoToSixLetters();
        itIsThere();
        whatIsNotTheSame();
        theScoreIsNotSo();
        theScoreIsSo();
        thereAreEighty();
        refusedOnesAreNotCounted();
        nothingIsCollectedThen();
        nothingIsCollectedThenWithEighty();
        DUE.end();
    }

    private static void itsNumber() {
        DUE.sentence("What was collected becomes a word: its number");
        GridFills fills = new GridFills(2, 1);
        DUE.due("the first", Grids.word(fills, "zz", 1), 0);
        DUE.due("the second", Grids.word(fills, "aa", 1000), 1);
        DUE.due("the third", Grids.word(fills, "mm", 5), 2);
        fills.theme(0, 2);
        DUE.due("run", fills.run(1), 0);
        DUE.due("found", Grids.found(fills, 2, 1), "mm");
        DUE.due("score", fills.score(), 5);
    }

    private static void fewerThanTwoLetters() {
        DUE.sentence("-1 when there are fewer than 2 letters");
        GridFills fills = new GridFills(2, 1);
        DUE.due("none", fills.word(1), -1);
        DUE.due("one", Grids.word(fills, "a", 1), -1);
        DUE.due("none is there", fills.slot(0, 4), 0);
        DUE.due("two", Grids.word(fills, "ab", 1), 0);
    }

    private static void twoToSixLetters() {
        DUE.sentence("of 2 to 6 letters");
        GridFills fills = new GridFills(6, 2);
        String[] texts = {"ab", "abc", "abcd", "abcde", "abcdef"};
        for (int i = 0; i < texts.length; i++) {
            DUE.due(texts[i], Grids.word(fills, texts[i], 1), i);
        }
        DUE.due("of six letters", fills.slot(0, 4), 1);
        DUE.due("of two letters", fills.slot(2, 4), 1);
    }

    private static void itIsThere() {
        DUE.sentence("-1 when .. it is there");
        GridFills fills = new GridFills(2, 1);
        DUE.due("ab", Grids.word(fills, "ab", 1), 0);
        DUE.due("ab at once again", Grids.word(fills, "ab", 1), -1);
        DUE.due("abcdef", Grids.word(fills, "abcdef", 1), 1);
        DUE.due("cd", Grids.word(fills, "cd", 1), 2);
        DUE.due("the first one, with another score", Grids.word(fills, "ab", 9), -1);
        DUE.due("the longest one", Grids.word(fills, "abcdef", 1), -1);
        DUE.due("the last one", Grids.word(fills, "cd", 1), -1);
        fills.theme(0, 0);
        DUE.due("run", fills.run(1), 0);
        DUE.due("its score stays", fills.score(), 1);
    }

    private static void whatIsNotTheSame() {
        DUE.sentence("no two the same");
        GridFills fills = new GridFills(2, 1);
        String[] texts = {"abc", "ab", "bc", "abcd", "abd", "cbc", "aac", "ba", "acb", "aa", "aaa"};
        for (int i = 0; i < texts.length; i++) {
            DUE.due(texts[i], Grids.word(fills, texts[i], 1), i);
        }
    }

    private static void theScoreIsNotSo() {
        DUE.sentence("-1 when .. the score is not so");
        GridFills fills = new GridFills(2, 1);
        for (int score : Grids.beyond(0, 1000)) {
            DUE.due("word(" + score + ")", Grids.word(fills, "ab", score), -1);
        }
        DUE.due("none is there", fills.slot(0, 4), 0);
    }

    private static void theScoreIsSo() {
        DUE.sentence("a SCORE 0 to 1,000");
        for (int score : new int[] {0, 1, 255, 256, 999, 1000}) {
            GridFills fills = new GridFills(2, 1);
            DUE.due("word(" + score + ")", Grids.word(fills, "ab", score), 0);
            DUE.due("run", fills.run(1), 0);
            DUE.due("score", fills.score(), score);
        }
    }

    private static String text(int number) {
        return "" + (char) ('a' + number / 26) + (char) ('a' + number % 26);
    }

    private static GridFills ofEighty() {
        GridFills fills = new GridFills(2, 1);
        for (int number = 0; number < 80; number++) {
            DUE.due("word " + number, Grids.word(fills, text(number), number), number);
        }
        return fills;
    }

    private static void thereAreEighty() {
        DUE.sentence("-1 when .. there are 80");
        GridFills fills = ofEighty();
        DUE.due("the 81st", Grids.word(fills, "zz", 1000), -1);
        DUE.due("of three letters", Grids.word(fills, "zzz", 1), -1);
        DUE.due("candidates", fills.slot(0, 4), 80);
        DUE.due("no word 80", fills.theme(0, 80), false);
        DUE.due("best", fills.best(80), 0);
        DUE.due("many", fills.many(), 80);
        DUE.due("the greatest score", fills.slot(0, 5), 79);
        for (int number : new int[] {0, 1, 15, 16, 17, 63, 64, 78, 79}) {
            DUE.due("theme " + number, fills.theme(0, number), true);
            DUE.due("run", fills.run(1), 0);
            DUE.due("word", fills.slot(0, 5), number);
            DUE.due("found", Grids.found(fills, 2, 1), text(number));
        }
    }

    private static void refusedOnesAreNotCounted() {
        DUE.sentence("WORDS are numbered from 0 on as they came");
        GridFills fills = new GridFills(2, 1);
        DUE.due("too short", Grids.word(fills, "a", 1), -1);
        DUE.due("the first", Grids.word(fills, "ab", 1), 0);
        DUE.due("there", Grids.word(fills, "ab", 1), -1);
        DUE.due("the second", Grids.word(fills, "cd", 1), 1);
        DUE.due("a wrong score", Grids.word(fills, "ef", -1), -1);
        DUE.due("the third", Grids.word(fills, "ef", 1), 2);
    }

    private static void nothingIsCollectedThen() {
        DUE.sentence("Nothing is collected then, in any case.");
        GridFills fills = new GridFills(2, 1);
        DUE.due("ab", Grids.word(fills, "ab", 1), 0);
        DUE.due("behind a word", Grids.word(fills, "c", 1), -1);
        DUE.due("behind one letter", Grids.word(fills, "d", 1), -1);
        DUE.due("ab is there", Grids.word(fills, "ab", 1), -1);
        DUE.due("behind what is there", Grids.word(fills, "c", 1), -1);
        DUE.due("a score too small", Grids.word(fills, "ef", -1), -1);
        DUE.due("behind it", Grids.word(fills, "g", 1), -1);
        DUE.due("a score too great", Grids.word(fills, "ef", 1001), -1);
        DUE.due("behind it", Grids.word(fills, "g", 1), -1);
        DUE.due("none of it", Grids.word(fills, "", 1), -1);
        DUE.due("all places are free", Grids.word(fills, "ghijkl", 1), 1);
    }

    private static void nothingIsCollectedThenWithEighty() {
        DUE.sentence("Nothing is collected then, in any case (when there are 80).");
        GridFills fills = ofEighty();
        Grids.collect(fills, "zzzzzz");
        DUE.due("no room for a seventh", fills.unit('z'), false);
        DUE.due("the 81st", fills.word(1), -1);
        DUE.due("room again", fills.unit('z'), true);
    }
}
