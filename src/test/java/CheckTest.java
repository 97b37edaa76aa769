/** Promise 15: whether what was found is still a filling; else 1 and the first slot that is not so. */
final class CheckTest {
    private static final Answers ANSWERS = new Answers();

    public static void main(String[] args) {
        nothingFound();
        givenLetters();
        themes();
        theFirstOfSeveral();
        changesThatDoNotMatter();
        ANSWERS.end();
    }

    /** ab/cd: slots 0 ab, 1 cd to the right, 2 ac, 3 bd down. */
    private static GridFills square() {
        GridFills fills = new GridFills(2, 2);
        Answers.word(fills, "ab", 9);
        Answers.word(fills, "cd", 0);
        Answers.word(fills, "ac", 0);
        Answers.word(fills, "bd", 0);
        Answers.words(fills, "xx");
        ANSWERS.due("run", fills.run(20000), 0);
        ANSWERS.dueText("found", Answers.found(fills, 2, 2), "ab/cd");
        ANSWERS.due("check", fills.check(), 0);
        return fills;
    }

    private static void nothingFound() {
        GridFills fills = new GridFills(2, 2);
        ANSWERS.due("check", fills.check(), -1);
        fills.run(5);
        ANSWERS.due("check", fills.check(), -1);
        GridFills gone = square();
        gone.black(0, 0, true);
        ANSWERS.due("check", gone.check(), -1);
    }

    private static void givenLetters() {
        GridFills fills = square();
        fills.given(0, 0, 'a');
        ANSWERS.due("the letter that is there", fills.check(), 0);
        fills.given(0, 0, 'b');
        ANSWERS.due("slots 0 and 2", fills.check(), 1);
        fills.given(0, 0, 0);
        ANSWERS.due("not any more", fills.check(), 0);
        fills.given(1, 1, 'x');
        ANSWERS.due("slots 1 and 3", fills.check(), 2);
        GridFills column = new GridFills(1, 3);
        Answers.words(column, "abc");
        column.run(1);
        column.given(0, 2, 'd');
        ANSWERS.due("the last letter, down", column.check(), 1);
    }

    private static void themes() {
        for (int slot = 0; slot < 4; slot++) {
            GridFills fills = square();
            fills.theme(slot, fills.slot(slot, 5));
            ANSWERS.due("the word that is there", fills.check(), 0);
            fills.theme(slot, 4);
            ANSWERS.due("another theme at slot " + slot, fills.check(), 1 + slot);
            fills.theme(slot, -1);
            ANSWERS.due("none any more", fills.check(), 0);
        }
    }

    private static void theFirstOfSeveral() {
        GridFills fills = square();
        fills.theme(3, 4);
        fills.theme(2, 4);
        ANSWERS.due("slots 2 and 3", fills.check(), 3);
        fills.given(0, 1, 'x');
        ANSWERS.due("slots 1, 2 and 3", fills.check(), 2);
        fills.theme(0, 4);
        ANSWERS.due("all of them", fills.check(), 1);
    }

    private static void changesThatDoNotMatter() {
        GridFills fills = square();
        Answers.words(fills, "zz", "yy");
        ANSWERS.due("more words", fills.check(), 0);
        fills.black(0, 0, false);
        ANSWERS.due("a cell that is so already", fills.check(), 0);
        GridFills alone = Answers.grid("..#.");
        Answers.words(alone, "ab");
        ANSWERS.due("run", alone.run(1), 0);
        alone.given(3, 0, 'x');
        ANSWERS.due("a letter at a cell of no slot", alone.check(), 0);
    }
}
