/** Promises 5, 6 and 8 (3 and 4): given letters, themes, and the candidates that they leave. */
final class WantsTest {
    private static final Answers ANSWERS = new Answers();

    public static void main(String[] args) {
        given();
        givenWrong();
        givenDoesNothingWhenFalse();
        theme();
        themeWrong();
        candidates();
        whatWasFoundStays();
        ANSWERS.end();
    }

    private static void given() {
        GridFills fills = new GridFills(2, 1);
        Answers.words(fills, "ab", "az", "zb", "zz", "abc");
        ANSWERS.due("none given", fills.slot(0, 4), 4);
        ANSWERS.due("a", fills.given(0, 0, 97), true);
        ANSWERS.due("a is given", fills.slot(0, 4), 2);
        ANSWERS.due("z", fills.given(1, 0, 122), true);
        ANSWERS.due("a, z are given", fills.slot(0, 4), 1);
        ANSWERS.due("run", fills.run(1), 0);
        ANSWERS.dueText("found", Answers.found(fills, 2, 1), "az");
        ANSWERS.due("another letter", fills.given(0, 0, 'z'), true);
        ANSWERS.due("run", fills.run(1), 0);
        ANSWERS.dueText("found", Answers.found(fills, 2, 1), "zz");
        ANSWERS.due("not any more", fills.given(0, 0, 0), true);
        ANSWERS.due("z is given", fills.slot(0, 4), 2);
        ANSWERS.due("not any more, again", fills.given(0, 0, 0), true);
        ANSWERS.due("q", fills.given(0, 0, 'q'), true);
        ANSWERS.due("none begins so", fills.slot(0, 4), 0);
        ANSWERS.due("run", fills.run(1), 1);
        ANSWERS.due("steps", fills.steps(), 0);
    }

    private static void givenWrong() {
        GridFills fills = Answers.grid("..#", "...");
        int[][] outside = {{-1, 0}, {0, -1}, {3, 0}, {0, 2}, {Integer.MIN_VALUE, 0}, {0, Integer.MAX_VALUE}};
        for (int[] cell : outside) {
            ANSWERS.due("no such cell", fills.given(cell[0], cell[1], 'a'), false);
            ANSWERS.due("no such cell", fills.given(cell[0], cell[1], 0), false);
        }
        ANSWERS.due("black", fills.given(2, 0, 'a'), false);
        ANSWERS.due("black", fills.given(2, 0, 0), false);
        for (int u : new int[] {-1, 1, 96, 123, 65, 353, Integer.MIN_VALUE, Integer.MAX_VALUE}) {
            ANSWERS.due("given(0, 0, " + u + ")", fills.given(0, 0, u), false);
        }
        ANSWERS.due("a cell of one slot", fills.given(2, 1, 'a'), true);
        GridFills alone = new GridFills(1, 1);
        ANSWERS.due("a cell of no slot", alone.given(0, 0, 'a'), true);
        ANSWERS.due("run", alone.run(0), 0);
        ANSWERS.due("has no letter", alone.letter(0, 0), 0);
    }

    private static void givenDoesNothingWhenFalse() {
        GridFills fills = new GridFills(2, 1);
        Answers.words(fills, "ab", "cd");
        fills.given(0, 0, 'a');
        fills.given(0, 0, 'A');
        fills.given(0, 1, 'c');
        fills.given(2, 0, 0);
        ANSWERS.due("a is given", fills.slot(0, 4), 1);
        ANSWERS.due("run", fills.run(1), 0);
        ANSWERS.due("word", fills.slot(0, 5), 0);
    }

    private static void theme() {
        GridFills fills = new GridFills(2, 2);
        Answers.words(fills, "ab", "ac", "bd", "cd", "xy");
        ANSWERS.due("candidates", fills.slot(0, 4), 5);
        ANSWERS.due("theme", fills.theme(0, 1), true);
        ANSWERS.due("theme", fills.slot(0, 3), 1);
        ANSWERS.due("of another", fills.slot(1, 3), -1);
        ANSWERS.due("the theme alone", fills.slot(0, 4), 1);
        ANSWERS.due("run", fills.run(100), 0);
        ANSWERS.dueText("found", Answers.found(fills, 2, 2), "ac/bd");
        ANSWERS.due("another theme", fills.theme(0, 0), true);
        ANSWERS.due("theme", fills.slot(0, 3), 0);
        ANSWERS.due("run", fills.run(100), 0);
        ANSWERS.dueText("found", Answers.found(fills, 2, 2), "ab/cd");
        ANSWERS.due("none any more", fills.theme(0, -1), true);
        ANSWERS.due("theme", fills.slot(0, 3), -1);
        ANSWERS.due("none any more, again", fills.theme(0, -1), true);
        ANSWERS.due("candidates", fills.slot(0, 4), 5);
        // One theme at two slots: no word goes into two.
        fills.theme(0, 0);
        fills.theme(2, 0);
        ANSWERS.due("run", fills.run(100), 1);
        ANSWERS.due("steps", fills.steps(), 1);
    }

    private static void themeWrong() {
        GridFills fills = new GridFills(3, 2);
        Answers.words(fills, "abc", "ab");
        fills.theme(0, 0);
        for (int slot : new int[] {-1, 5, 24, Integer.MIN_VALUE, Integer.MAX_VALUE}) {
            ANSWERS.due("no such slot", fills.theme(slot, 0), false);
            ANSWERS.due("no such slot", fills.theme(slot, -1), false);
        }
        for (int word : new int[] {-2, 2, 79, 80, Integer.MIN_VALUE, Integer.MAX_VALUE}) {
            ANSWERS.due("no such word", fills.theme(0, word), false);
        }
        ANSWERS.due("too short", fills.theme(0, 1), false);
        ANSWERS.due("too long", fills.theme(2, 0), false);
        ANSWERS.due("the theme stays", fills.slot(0, 3), 0);
        ANSWERS.due("of its length", fills.theme(2, 1), true);
    }

    private static void candidates() {
        GridFills fills = new GridFills(3, 3);
        Answers.words(fills, "abc", "abd", "xbc", "ab", "abcd");
        ANSWERS.due("by length", fills.slot(0, 4), 3);
        fills.theme(0, 1);
        fills.given(2, 0, 'c');
        ANSWERS.due("a theme that does not fit is none", fills.slot(0, 4), 0);
        ANSWERS.due("run", fills.run(100), 1);
        fills.given(2, 0, 'd');
        ANSWERS.due("one that does is one", fills.slot(0, 4), 1);
        ANSWERS.due("down", fills.slot(5, 4), 0);
        fills.given(2, 0, 0);
        fills.theme(0, -1);
        fills.given(1, 1, 'b');
        ANSWERS.due("given in the middle, right", fills.slot(1, 4), 3);
        ANSWERS.due("given in the middle, down", fills.slot(4, 4), 3);
        fills.given(0, 1, 'x');
        ANSWERS.due("two given", fills.slot(1, 4), 1);
        ANSWERS.due("not of the one that is passed by", fills.slot(0, 4), 3);
        GridFills line = new GridFills(2, 1);
        Answers.words(line, "ab", "cd");
        line.run(10);
        ANSWERS.due("words that are found do not count as used", line.slot(0, 4), 2);
    }

    private static void whatWasFoundStays() {
        GridFills fills = new GridFills(2, 1);
        Answers.words(fills, "ab", "cd");
        fills.run(10);
        fills.given(0, 0, 'c');
        fills.theme(0, 1);
        Answers.words(fills, "ef");
        ANSWERS.due("score", fills.score(), 0);
        ANSWERS.due("word", fills.slot(0, 5), 0);
        ANSWERS.dueText("found", Answers.found(fills, 2, 1), "ab");
    }
}
