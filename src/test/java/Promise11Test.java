/** Promise 11: steps. */
final class Promise11Test {
    private static final Answers DUE = new Answers();

    public static void main(String[] args) {
        beforeASearch();
        ofRun();
        ofBest();
        ofTheLatest();
        ofASearchThatRunsOut();
        ofASearchWithoutSteps();
        refusedSearchesDoNotCount();
        othersDoNotMatter();
        DUE.end();
    }

    private static void beforeASearch() {
        DUE.sentence("How many STEPS the latest search made (there was none).");
        GridFills fills = Grids.square();
        DUE.due("steps", fills.steps(), 0);
        DUE.due("a refused one", fills.run(-1), -1);
        DUE.due("steps", fills.steps(), 0);
    }

    private static void ofRun() {
        DUE.sentence("How many STEPS the latest search made (run).");
        GridFills fills = Grids.grid("..#..", "#####", "..#..");
        Grids.words(fills, "ab", "cd", "ef");
        DUE.due("none", fills.run(20000), 1);
        DUE.due("steps", fills.steps(), 3 + 6 + 6);
        Grids.words(fills, "gh");
        DUE.due("run", fills.run(20000), 0);
        DUE.due("steps", fills.steps(), 4);
    }

    private static void ofBest() {
        DUE.sentence("How many STEPS the latest search made (best).");
        GridFills fills = new GridFills(2, 1);
        for (int number = 0; number < 80; number++) {
            Grids.word(fills, "" + (char) ('a' + number / 10) + (char) ('a' + number % 10), number);
        }
        DUE.due("best", fills.best(20000), 0);
        DUE.due("each word once", fills.steps(), 80);
    }

    private static void ofTheLatest() {
        DUE.sentence("the latest search");
        GridFills fills = new GridFills(2, 1);
        Grids.words(fills, "ab", "cd", "ef");
        DUE.due("best", fills.best(20000), 0);
        DUE.due("steps", fills.steps(), 3);
        DUE.due("run", fills.run(20000), 0);
        DUE.due("steps", fills.steps(), 1);
        DUE.due("run", fills.run(20000), 0);
        DUE.due("they do not add up", fills.steps(), 1);
        DUE.due("best", fills.best(20000), 0);
        DUE.due("steps", fills.steps(), 3);
    }

    private static void ofASearchThatRunsOut() {
        DUE.sentence("How many STEPS (of a search that they do not do for).");
        GridFills fills = new GridFills(2, 1);
        Grids.words(fills, "ab", "cd", "ef");
        for (int limit = 0; limit < 3; limit++) {
            DUE.due("best(" + limit + ")", fills.best(limit), 2);
            DUE.due("steps", fills.steps(), limit);
        }
    }

    private static void ofASearchWithoutSteps() {
        DUE.sentence("How many STEPS (none).");
        GridFills fills = Grids.square();
        DUE.due("run", fills.run(20000), 0);
        DUE.due("steps", fills.steps() >= 4, true);
        fills.given(0, 0, 'q');
        DUE.due("no candidates", fills.run(20000), 1);
        DUE.due("steps", fills.steps(), 0);
        GridFills one = new GridFills(1, 1);
        DUE.due("no slots", one.best(20000), 0);
        DUE.due("steps", one.steps(), 0);
    }

    private static void refusedSearchesDoNotCount() {
        DUE.sentence("-1, doing nothing (to the steps)");
        GridFills fills = new GridFills(2, 1);
        Grids.words(fills, "ab", "cd", "ef");
        DUE.due("best", fills.best(20000), 0);
        DUE.due("run", fills.run(20001), -1);
        DUE.due("best", fills.best(-1), -1);
        DUE.due("steps", fills.steps(), 3);
    }

    private static void othersDoNotMatter() {
        DUE.sentence("How many STEPS the latest search made (whatever came since).");
        GridFills fills = new GridFills(3, 1);
        Grids.words(fills, "abc", "abd");
        DUE.due("best", fills.best(20000), 0);
        Grids.words(fills, "xyz");
        fills.given(0, 0, 'x');
        fills.theme(0, 0);
        fills.black(0, 0, true);
        DUE.due("candidates", fills.slot(0, 4), 0);
        DUE.due("steps", fills.steps(), 2);
    }
}
