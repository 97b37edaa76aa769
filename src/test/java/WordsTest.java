/** Promises 3 and 4: letters that are collected, and words of them. */
final class WordsTest {
    private static final Answers ANSWERS = new Answers();

    public static void main(String[] args) {
        letters();
        lengths();
        scores();
        sameWords();
        nothingIsCollectedThen();
        mostWords();
        ANSWERS.end();
    }

    private static void letters() {
        GridFills fills = new GridFills(6, 1);
        for (int u : new int[] {Integer.MIN_VALUE, -97, -1, 0, 32, 65, 90, 96, 123, 353, Integer.MAX_VALUE}) {
            ANSWERS.due("unit(" + u + ")", fills.unit(u), false);
        }
        for (int u : new int[] {97, 122, 98, 121, 109, 97}) {
            ANSWERS.due("unit(" + u + ")", fills.unit(u), true);
            ANSWERS.due("unit(96)", fills.unit(96), false);
        }
        ANSWERS.due("a seventh", fills.unit('a'), false);
        ANSWERS.due("a seventh", fills.unit('a'), false);
        ANSWERS.due("word", fills.word(1), 0);
        ANSWERS.due("run", fills.run(1), 0);
        ANSWERS.dueText("in their order", Answers.found(fills, 6, 1), "azbyma");
    }

    private static void lengths() {
        GridFills fills = new GridFills(6, 6);
        ANSWERS.due("no letter", fills.word(1), -1);
        ANSWERS.due("one letter", Answers.word(fills, "a", 1), -1);
        String[] texts = {"ab", "abc", "abcd", "abcde", "abcdef"};
        for (int i = 0; i < texts.length; i++) {
            ANSWERS.due(texts[i], Answers.word(fills, texts[i], 1), i);
        }
        ANSWERS.due("one of them has six letters", fills.slot(0, 4), 1);
    }

    private static void scores() {
        GridFills fills = new GridFills(2, 1);
        for (int score : new int[] {-1, 1001, Integer.MIN_VALUE, Integer.MAX_VALUE}) {
            ANSWERS.due("word(" + score + ")", Answers.word(fills, "ab", score), -1);
        }
        ANSWERS.due("word(0)", Answers.word(fills, "ab", 0), 0);
        fills.run(1);
        ANSWERS.due("score", fills.score(), 0);
        ANSWERS.due("word(1000)", Answers.word(fills, "cd", 1000), 1);
        fills.run(1);
        ANSWERS.due("score", fills.score(), 1000);
    }

    private static void sameWords() {
        GridFills fills = new GridFills(3, 1);
        ANSWERS.due("ab", Answers.word(fills, "ab", 1), 0);
        ANSWERS.due("ab again", Answers.word(fills, "ab", 2), -1);
        ANSWERS.due("abc", Answers.word(fills, "abc", 1), 1);
        ANSWERS.due("aba", Answers.word(fills, "aba", 1), 2);
        ANSWERS.due("ba", Answers.word(fills, "ba", 1), 3);
        ANSWERS.due("bbc", Answers.word(fills, "bbc", 1), 4);
        ANSWERS.due("abc again", Answers.word(fills, "abc", 1), -1);
        ANSWERS.due("bbc again", Answers.word(fills, "bbc", 7), -1);
        ANSWERS.due("ab again", Answers.word(fills, "ab", 1), -1);
        ANSWERS.due("of three letters", fills.slot(0, 4), 3);
    }

    private static void nothingIsCollectedThen() {
        GridFills fills = new GridFills(2, 1);
        fills.unit('a');
        fills.unit('b');
        ANSWERS.due("ab", fills.word(1), 0);
        ANSWERS.due("nothing is left", fills.word(1), -1);
        fills.unit('c');
        ANSWERS.due("too short", fills.word(1), -1);
        fills.unit('d');
        ANSWERS.due("c is not there any more", fills.word(1), -1);
        fills.unit('e');
        fills.unit('f');
        ANSWERS.due("wrong score", fills.word(-1), -1);
        ANSWERS.due("e, f are not there any more", fills.word(1), -1);
        Answers.word(fills, "ab", 1);
        ANSWERS.due("nor is what was there", fills.word(1), -1);
        ANSWERS.due("all six places are free", Answers.word(fills, "ghijkl", 1), 1);
    }

    private static String numbered(int number) {
        return "" + (char) ('a' + number / 26) + (char) ('a' + number % 26);
    }

    private static void mostWords() {
        GridFills fills = new GridFills(2, 1);
        for (int number = 0; number < 80; number++) {
            ANSWERS.due("word " + number, Answers.word(fills, numbered(number), number), number);
        }
        ANSWERS.due("the 81st", Answers.word(fills, "zz", 1), -1);
        ANSWERS.due("nothing is collected", fills.word(1), -1);
        ANSWERS.due("candidates", fills.slot(0, 4), 80);
        ANSWERS.due("best", fills.best(80), 0);
        ANSWERS.due("many", fills.many(), 80);
        ANSWERS.due("score", fills.score(), 79);
        ANSWERS.due("word", fills.slot(0, 5), 79);
        ANSWERS.due("no word has this number", fills.theme(0, 80), false);
        ANSWERS.due("theme of the least score", fills.theme(0, 0), true);
        ANSWERS.due("run", fills.run(1), 0);
        ANSWERS.due("word", fills.slot(0, 5), 0);
    }
}
