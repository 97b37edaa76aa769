/** Promise 12: many. */
final class Promise12Test {
    private static final Answers DUE = new Answers();

    public static void main(String[] args) {
        beforeASearch();
        ofBest();
        ofBestThatFindsNone();
        ofBestThatRunsOut();
        ofRunThatFoundOne();
        ofRunThatFoundNone();
        ofTheLatest();
        refusedSearchesDoNotCount();
        othersDoNotMatter();
        DUE.end();
    }

    private static GridFills line() {
        GridFills fills = new GridFills(2, 1);
        Grids.word(fills, "ab", 1);
        Grids.word(fills, "cd", 1);
        Grids.word(fills, "ef", 0);
        return fills;
    }

    private static void beforeASearch() {
        DUE.sentence("How many fillings the latest best() came to (there was none).");
        DUE.due("many", line().many(), 0);
        DUE.due("many", new GridFills(1, 1).many(), 0);
    }

    private static void ofBest() {
        DUE.sentence("How many fillings the latest best() came to");
        GridFills fills = line();
        DUE.due("best", fills.best(20000), 0);
        DUE.due("alike and lesser ones too", fills.many(), 3);
        GridFills two = Grids.square();
        DUE.due("best", two.best(20000), 0);
        DUE.due("many", two.many(), 2);
        GridFills one = new GridFills(1, 1);
        DUE.due("of no slots", one.best(0), 0);
        DUE.due("many", one.many(), 1);
        GridFills corner = Grids.grid("..", ".#");
        for (int number = 0; number < 80; number++) {
            Grids.word(corner, "" + (char) ('a' + number / 10) + (char) ('a' + number % 10), number);
        }
        DUE.due("best", corner.best(20000), 0);
        // Eight first letters, and ten words with each.
        DUE.due("many", corner.many(), 8 * 10 * 9);
    }

    private static void ofBestThatFindsNone() {
        DUE.sentence("How many fillings the latest best() came to (none)");
        GridFills fills = line();
        DUE.due("best", fills.best(20000), 0);
        fills.given(0, 0, 'q');
        DUE.due("best", fills.best(20000), 1);
        DUE.due("many", fills.many(), 0);
    }

    private static void ofBestThatRunsOut() {
        DUE.sentence("How many fillings the latest best() came to (by the steps that it had)");
        GridFills fills = line();
        for (int limit = 0; limit < 3; limit++) {
            DUE.due("best(" + limit + ")", fills.best(limit), 2);
            DUE.due("many", fills.many(), limit);
        }
        DUE.due("best(3)", fills.best(3), 0);
        DUE.due("many", fills.many(), 3);
    }

    private static void ofRunThatFoundOne() {
        DUE.sentence("of run() 1 when it found one");
        GridFills fills = line();
        DUE.due("run", fills.run(20000), 0);
        DUE.due("many", fills.many(), 1);
        DUE.due("run", fills.run(20000), 0);
        DUE.due("they do not add up", fills.many(), 1);
        GridFills one = new GridFills(1, 1);
        DUE.due("of no slots", one.run(0), 0);
        DUE.due("many", one.many(), 1);
    }

    private static void ofRunThatFoundNone() {
        DUE.sentence("of run() .. else 0");
        GridFills fills = line();
        DUE.due("run", fills.run(20000), 0);
        DUE.due("runs out", fills.run(0), 2);
        DUE.due("many", fills.many(), 0);
        DUE.due("run", fills.run(20000), 0);
        fills.given(0, 0, 'q');
        DUE.due("none", fills.run(20000), 1);
        DUE.due("many", fills.many(), 0);
    }

    private static void ofTheLatest() {
        DUE.sentence("the latest best(); of run() 1");
        GridFills fills = line();
        DUE.due("best", fills.best(20000), 0);
        DUE.due("many", fills.many(), 3);
        DUE.due("run", fills.run(20000), 0);
        DUE.due("many", fills.many(), 1);
        DUE.due("best", fills.best(20000), 0);
        DUE.due("many", fills.many(), 3);
        DUE.due("best", fills.best(20000), 0);
        DUE.due("they do not add up", fills.many(), 3);
    }

    private static void refusedSearchesDoNotCount() {
        DUE.sentence("-1, doing nothing (to many)");
        GridFills fills = line();
        DUE.due("best", fills.best(20000), 0);
        DUE.due("run", fills.run(-1), -1);
        DUE.due("best", fills.best(20001), -1);
        DUE.due("many", fills.many(), 3);
    }

    private static void othersDoNotMatter() {
        DUE.sentence("How many fillings the latest best() came to (whatever came since)");
        GridFills fills = line();
        DUE.due("best", fills.best(20000), 0);
        Grids.words(fills, "gh");
        fills.given(0, 0, 'q');
        fills.black(0, 0, true);
        DUE.due("many", fills.many(), 3);
    }
}
