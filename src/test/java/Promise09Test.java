/** Promise 9: run. */
final class Promise09Test {
    private static final Answers DUE = new Answers();

    public static void main(String[] args) {
        theFirstFilling();
        theFirstIsNotTheBest();
        withoutSlots();
        thereIsNone();
        thereIsNoneWithoutWords();
        stepsThatJustDo();
        stepsThatDoNotDo();
        stepsThatJustTellThereIsNone();
        noStepsAtAll();
        theMostSteps();
        stepsNotSo();
        stepsNotSoDoNothing();
        whatWasFoundBeforeIsGone();
        sameAgain();
        DUE.end();
    }

    private static void theFirstFilling() {
        DUE.sentence("0 a filling is found, the first one");
        GridFills fills = Grids.square();
        DUE.due("run", fills.run(20000), 0);
        // cd does not begin a filling, nor does bd; ac does, and comes before ab.
        DUE.due("found", Grids.found(fills, 2, 2), "ac/bd");
        DUE.due("score", fills.score(), 10);
    }

    private static void theFirstIsNotTheBest() {
        DUE.sentence("the first one (with a lesser score than a later one)");
        GridFills fills = Grids.grid("..", ".#");
        Grids.word(fills, "ax", 9);
        Grids.word(fills, "ay", 0);
        Grids.word(fills, "bx", 8);
        Grids.word(fills, "by", 8);
        DUE.due("run", fills.run(20000), 0);
        DUE.due("found", Grids.found(fills, 2, 2), "ax/y.");
        DUE.due("score", fills.score(), 9);
        DUE.due("steps", fills.steps(), 2);
    }

    private static void withoutSlots() {
        DUE.sentence("0 a filling is found (of no slots)");
        for (GridFills fills : new GridFills[] {new GridFills(1, 1), Grids.grid(".#", "#."), Grids.grid("##")}) {
            DUE.due("run", fills.run(0), 0);
            DUE.due("run", fills.run(20000), 0);
            DUE.due("steps", fills.steps(), 0);
            DUE.due("score", fills.score(), 0);
            DUE.due("check", fills.check(), 0);
            DUE.due("letter", fills.letter(0, 0), 0);
        }
    }

    private static void thereIsNone() {
        DUE.sentence("1 there is none");
        GridFills fills = new GridFills(2, 2);
        Grids.words(fills, "ab", "cd", "ac", "be");
        DUE.due("run", fills.run(20000), 1);
        DUE.due("score", fills.score(), -1);
        GridFills given = Grids.square();
        given.given(1, 1, 'q');
        DUE.due("by a given letter", given.run(20000), 1);
        GridFills themes = Grids.square();
        themes.theme(0, 0);
        themes.theme(2, 0);
        DUE.due("by themes", themes.run(20000), 1);
    }

    private static void thereIsNoneWithoutWords() {
        DUE.sentence("1 there is none (without words)");
        GridFills fills = new GridFills(6, 6);
        DUE.due("run", fills.run(20000), 1);
        DUE.due("run", fills.run(0), 1);
        DUE.due("steps", fills.steps(), 0);
        Grids.words(fills, "ab", "abc", "abcd", "abcde");
        DUE.due("of other lengths alone", fills.run(0), 1);
        // One slot without candidates does, as it comes next.
        GridFills two = Grids.grid("..#...");
        Grids.words(two, "ab");
        DUE.due("one slot without", two.run(0), 1);
        DUE.due("steps", two.steps(), 0);
    }

    private static void stepsThatJustDo() {
        DUE.sentence("with at most so many STEPS (just enough)");
        GridFills fills = Grids.grid("..#..", "#####", "..###");
        Grids.words(fills, "ab", "cd", "ef");
        DUE.due("run", fills.run(3), 0);
        DUE.due("steps", fills.steps(), 3);
        GridFills back = Grids.grid("..", ".#");
        Grids.words(back, "ab", "cd", "ce");
        DUE.due("a word that is taken away counts", back.run(3), 0);
        DUE.due("steps", back.steps(), 3);
    }

    private static void stepsThatDoNotDo() {
        DUE.sentence("2 the steps do not do");
        GridFills fills = Grids.grid("..#..", "#####", "..###");
        Grids.words(fills, "ab", "cd", "ef");
        for (int limit = 0; limit < 3; limit++) {
            DUE.due("run(" + limit + ")", fills.run(limit), 2);
            DUE.due("steps", fills.steps(), limit);
            DUE.due("score", fills.score(), -1);
        }
        GridFills back = Grids.grid("..", ".#");
        Grids.words(back, "ab", "cd", "ce");
        DUE.due("one less", back.run(2), 2);
    }

    /** Four slots and three words: 3, then 3 * 2, then 3 * 2 * 1 steps, and the fourth slot has none. */
    private static GridFills threeForFour() {
        GridFills fills = Grids.grid("..#..", "#####", "..#..");
        Grids.words(fills, "ab", "cd", "ef");
        return fills;
    }

    private static void stepsThatJustTellThereIsNone() {
        DUE.sentence("1 there is none; 2 the steps do not do (just enough, and one less)");
        GridFills fills = threeForFour();
        DUE.due("run(15)", fills.run(15), 1);
        DUE.due("steps", fills.steps(), 15);
        DUE.due("run(14)", fills.run(14), 2);
        DUE.due("steps", fills.steps(), 14);
    }

    private static void noStepsAtAll() {
        DUE.sentence("STEPS (0 ..)");
        GridFills fills = Grids.square();
        DUE.due("run(0)", fills.run(0), 2);
        DUE.due("steps", fills.steps(), 0);
        DUE.due("many", fills.many(), 0);
        fills.given(0, 0, 'q');
        DUE.due("none, without a step", fills.run(0), 1);
    }

    private static void theMostSteps() {
        DUE.sentence("STEPS (.. to 20,000)");
        // Nine slots, and eight words that all fit: far more than 20,000 steps tell there is none.
        GridFills fills = Grids.grid(
                "..#..#",
                ".##.##",
                "######",
                "..#..#",
                ".##.##",
                "#..###");
        DUE.due("slots", fills.slots(), 9);
        Grids.words(fills, "aa", "ab", "ac", "ad", "ae", "af", "ag", "ah");
        DUE.due("run(20000)", fills.run(20000), 2);
        DUE.due("steps", fills.steps(), 20000);
        DUE.due("run(19999)", fills.run(19999), 2);
        DUE.due("steps", fills.steps(), 19999);
        Grids.words(fills, "ai");
        DUE.due("nine words", fills.run(20000), 0);
        DUE.due("steps", fills.steps(), 9);
    }

    private static void stepsNotSo() {
        DUE.sentence("-1 .. when steps is not so");
        GridFills fills = Grids.square();
        for (int limit : Grids.beyond(0, 20000)) {
            DUE.due("run(" + limit + ")", fills.run(limit), -1);
        }
        GridFills one = new GridFills(1, 1);
        DUE.due("without slots", one.run(-1), -1);
        DUE.due("nothing is found", one.score(), -1);
    }

    private static void stepsNotSoDoNothing() {
        DUE.sentence("-1, doing nothing, when steps is not so");
        GridFills fills = Grids.square();
        DUE.due("best", fills.best(20000), 0);
        String before = Grids.state(fills, 2, 2);
        DUE.due("run(-1)", fills.run(-1), -1);
        DUE.due("run(20001)", fills.run(20001), -1);
        DUE.due("state", Grids.state(fills, 2, 2), before);
        DUE.due("many of best", fills.many(), 2);
        DUE.due("score", fills.score(), 10);
    }

    private static void whatWasFoundBeforeIsGone() {
        DUE.sentence("1 there is none; 2 the steps do not do (nothing is found then)");
        GridFills fills = Grids.square();
        DUE.due("run", fills.run(20000), 0);
        DUE.due("runs out", fills.run(3), 2);
        dueNothing(fills);
        DUE.due("run", fills.run(20000), 0);
        fills.given(0, 0, 'q');
        DUE.due("none", fills.run(20000), 1);
        dueNothing(fills);
    }

    private static void dueNothing(GridFills fills) {
        DUE.due("score", fills.score(), -1);
        DUE.due("check", fills.check(), -1);
        DUE.due("many", fills.many(), 0);
        DUE.due("word", fills.slot(0, 5), -1);
        DUE.due("letters", Grids.found(fills, 2, 2), "../..");
    }

    private static void sameAgain() {
        DUE.sentence("a filling is found, the first one (by each search anew)");
        GridFills fills = Grids.square();
        DUE.due("run", fills.run(20000), 0);
        String once = Grids.state(fills, 2, 2);
        DUE.due("runs out", fills.run(3), 2);
        DUE.due("run", fills.run(20000), 0);
        DUE.due("state", Grids.state(fills, 2, 2), once);
        DUE.due("best that runs out", fills.best(5), 2);
        DUE.due("run", fills.run(20000), 0);
        DUE.due("state", Grids.state(fills, 2, 2), once);
    }
}
