/** Promise 10: best. */
final class Promise10Test {
    private static final Answers DUE = new Answers();

    public static void main(String[] args) {
        theGreatestScore();
        ofAlikeOnesTheFirst();
        aScoreOfNothing();
        onlyOne();
        withoutSlots();
        thereIsNone();
        stepsThatJustDo();
        stepsThatDoNotDoWithoutOne();
        stepsThatDoNotDoWithOne();
        theFirstOfAlikeOnesSoFar();
        theMostSteps();
        stepsNotSo();
        stepsNotSoDoNothing();
        whatWasFoundBeforeIsGone();
        DUE.end();
    }

    /** Two slots with one first cell: four steps in slot 0, and one behind each. */
    private static GridFills corner() {
        GridFills fills = Grids.grid("..", ".#");
        Grids.word(fills, "ax", 9);
        Grids.word(fills, "ay", 0);
        Grids.word(fills, "bx", 8);
        Grids.word(fills, "by", 8);
        return fills;
    }

    private static void theGreatestScore() {
        DUE.sentence("All fillings are SEARCHED for and that with the greatest SCORE is found");
        GridFills fills = corner();
        DUE.due("best", fills.best(20000), 0);
        DUE.due("many", fills.many(), 4);
        DUE.due("steps", fills.steps(), 8);
        DUE.due("score", fills.score(), 16);
        DUE.due("found", Grids.found(fills, 2, 2), "bx/y.");
        DUE.due("slot 0", fills.slot(0, 5), 2);
        DUE.due("slot 1", fills.slot(1, 5), 3);
        DUE.due("check", fills.check(), 0);
    }

    private static void ofAlikeOnesTheFirst() {
        DUE.sentence("of alike ones the first");
        GridFills fills = Grids.square();
        DUE.due("best", fills.best(20000), 0);
        DUE.due("many", fills.many(), 2);
        DUE.due("score", fills.score(), 10);
        DUE.due("found", Grids.found(fills, 2, 2), "ac/bd");
        GridFills later = corner();
        // by and bx score as much as bx and by, but come later.
        DUE.due("best", later.best(20000), 0);
        DUE.due("slot 0", later.slot(0, 5), 2);
    }

    private static void aScoreOfNothing() {
        DUE.sentence("the greatest SCORE (0)");
        GridFills fills = new GridFills(2, 1);
        Grids.words(fills, "ab", "cd");
        DUE.due("best", fills.best(20000), 0);
        DUE.due("score", fills.score(), 0);
        DUE.due("the first", fills.slot(0, 5), 0);
    }

    private static void onlyOne() {
        DUE.sentence("All fillings are SEARCHED for (there is one)");
        GridFills fills = new GridFills(2, 1);
        Grids.word(fills, "ab", 1000);
        DUE.due("best", fills.best(1), 0);
        DUE.due("many", fills.many(), 1);
        DUE.due("steps", fills.steps(), 1);
        DUE.due("score", fills.score(), 1000);
    }

    private static void withoutSlots() {
        DUE.sentence("All fillings are SEARCHED for (of no slots)");
        for (GridFills fills : new GridFills[] {new GridFills(1, 1), Grids.grid(".#", "#."), Grids.grid("##")}) {
            DUE.due("best", fills.best(0), 0);
            DUE.due("many", fills.many(), 1);
            DUE.due("steps", fills.steps(), 0);
            DUE.due("score", fills.score(), 0);
            DUE.due("check", fills.check(), 0);
        }
    }

    private static void thereIsNone() {
        DUE.sentence("1 there is none");
        GridFills fills = new GridFills(2, 2);
        Grids.words(fills, "ab", "cd", "ac", "be");
        DUE.due("best", fills.best(20000), 1);
        DUE.due("many", fills.many(), 0);
        DUE.due("score", fills.score(), -1);
        DUE.due("without words", new GridFills(6, 6).best(0), 1);
        GridFills four = Grids.grid("..#..", "#####", "..#..");
        Grids.words(four, "ab", "cd", "ef");
        DUE.due("just enough to tell", four.best(15), 1);
        DUE.due("one less", four.best(14), 2);
    }

    private static void stepsThatJustDo() {
        DUE.sentence("with at most so many STEPS, as above (just enough, and one less)");
        GridFills fills = corner();
        DUE.due("best(8)", fills.best(8), 0);
        DUE.due("steps", fills.steps(), 8);
        DUE.due("many", fills.many(), 4);
        DUE.due("best(7)", fills.best(7), 2);
        DUE.due("steps", fills.steps(), 7);
        DUE.due("many", fills.many(), 3);
        // The last words that are put do not come to a filling, but all are searched for then.
        GridFills behind = Grids.grid("..", ".#");
        Grids.word(behind, "ax", 9);
        Grids.word(behind, "ay", 8);
        Grids.word(behind, "bx", 7);
        DUE.due("best(5)", behind.best(5), 0);
        DUE.due("many", behind.many(), 2);
        DUE.due("best(4)", behind.best(4), 2);
        DUE.due("many", behind.many(), 2);
        DUE.due("score", behind.score(), 17);
    }

    private static void stepsThatDoNotDoWithoutOne() {
        DUE.sentence("2 the steps do not do (.. if there was one: there was none)");
        GridFills fills = corner();
        for (int limit = 0; limit < 2; limit++) {
            DUE.due("best(" + limit + ")", fills.best(limit), 2);
            DUE.due("steps", fills.steps(), limit);
            DUE.due("many", fills.many(), 0);
            DUE.due("score", fills.score(), -1);
            DUE.due("check", fills.check(), -1);
            DUE.due("letters", Grids.found(fills, 2, 2), "../..");
        }
    }

    private static void stepsThatDoNotDoWithOne() {
        DUE.sentence("2 the steps do not do (then that with the greatest score so far is found, if there was one)");
        GridFills fills = corner();
        DUE.due("best(2)", fills.best(2), 2);
        DUE.due("many", fills.many(), 1);
        DUE.due("score", fills.score(), 9);
        DUE.due("found", Grids.found(fills, 2, 2), "ax/y.");
        DUE.due("check", fills.check(), 0);
        DUE.due("best(4)", fills.best(4), 2);
        DUE.due("many", fills.many(), 2);
        DUE.due("a greater one", fills.score(), 16);
        GridFills falling = Grids.grid("..", ".#");
        Grids.word(falling, "ax", 9);
        Grids.word(falling, "ay", 8);
        Grids.word(falling, "bx", 7);
        Grids.word(falling, "by", 6);
        // ax and ay, ay and ax, bx and by: the third scores less.
        DUE.due("best(6)", falling.best(6), 2);
        DUE.due("many", falling.many(), 3);
        DUE.due("score", falling.score(), 17);
        DUE.due("slot 0", falling.slot(0, 5), 0);
    }

    private static void theFirstOfAlikeOnesSoFar() {
        DUE.sentence("that with the greatest score so far (of alike ones the first)");
        GridFills fills = corner();
        DUE.due("best(6)", fills.best(6), 2);
        DUE.due("many", fills.many(), 3);
        DUE.due("score", fills.score(), 16);
        DUE.due("slot 0", fills.slot(0, 5), 2);
        DUE.due("slot 1", fills.slot(1, 5), 3);
    }

    private static void theMostSteps() {
        DUE.sentence("STEPS (0 to 20,000), as above");
        GridFills fills = Grids.grid("..#..", "#####", "..###");
        for (int number = 0; number < 40; number++) {
            Grids.word(fills, "a" + (char) ('a' + number % 20) + (number < 20 ? "" : "b"), 1);
        }
        // 20 words for three slots: 20 + 20 * 19 + 20 * 19 * 18 steps.
        DUE.due("best(20000)", fills.best(20000), 0);
        DUE.due("steps", fills.steps(), 7240);
        DUE.due("many", fills.many(), 6840);
        for (int number = 0; number < 9; number++) {
            Grids.word(fills, "b" + (char) ('a' + number), 1);
        }
        // 29 words: 29 + 29 * 28 + 29 * 28 * 27 steps are more than 20,000.
        DUE.due("best(20000)", fills.best(20000), 2);
        DUE.due("steps", fills.steps(), 20000);
        DUE.due("score", fills.score(), 3);
    }

    private static void stepsNotSo() {
        DUE.sentence("-1 as above");
        GridFills fills = Grids.square();
        for (int limit : Grids.beyond(0, 20000)) {
            DUE.due("best(" + limit + ")", fills.best(limit), -1);
        }
        GridFills one = new GridFills(1, 1);
        DUE.due("without slots", one.best(20001), -1);
        DUE.due("nothing is found", one.score(), -1);
    }

    private static void stepsNotSoDoNothing() {
        DUE.sentence("-1 as above (doing nothing)");
        GridFills fills = Grids.square();
        DUE.due("run", fills.run(20000), 0);
        String before = Grids.state(fills, 2, 2);
        DUE.due("best(-1)", fills.best(-1), -1);
        DUE.due("best(20001)", fills.best(20001), -1);
        DUE.due("state", Grids.state(fills, 2, 2), before);
        DUE.due("many of run", fills.many(), 1);
    }

    private static void whatWasFoundBeforeIsGone() {
        DUE.sentence("that with the greatest score is found (by this search alone)");
        GridFills fills = corner();
        DUE.due("best", fills.best(20000), 0);
        DUE.due("score", fills.score(), 16);
        DUE.due("best(2)", fills.best(2), 2);
        DUE.due("a greater one before does not count", fills.score(), 9);
        DUE.due("best(1)", fills.best(1), 2);
        DUE.due("score", fills.score(), -1);
        DUE.due("best", fills.best(20000), 0);
        fills.given(0, 0, 'q');
        DUE.due("none", fills.best(20000), 1);
        DUE.due("score", fills.score(), -1);
        DUE.due("check", fills.check(), -1);
    }
}
