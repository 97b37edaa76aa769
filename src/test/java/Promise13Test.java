/** Promise 13: score. */
final class Promise13Test {
    private static final Answers DUE = new Answers();

    public static void main(String[] args) {
        ofWhatWasFound();
        zeroIsAScore();
        theGreatestThereCanBe();
        nothingIsFoundYet();
        nothingIsFoundAnyMore();
        othersDoNotMatter();
        DUE.end();
    }

    private static void ofWhatWasFound() {
        DUE.sentence("The SCORE of what was found");
        GridFills fills = Grids.square();
        DUE.due("run", fills.run(20000), 0);
        DUE.due("the sum of four", fills.score(), 10);
        GridFills two = Grids.grid("..#..");
        Grids.word(two, "ab", 100);
        Grids.word(two, "cd", 20);
        Grids.word(two, "ef", 3);
        DUE.due("run", two.run(20000), 0);
        DUE.due("score", two.score(), 120);
        two.theme(0, 2);
        DUE.due("of what was found, as it was", two.score(), 120);
        DUE.due("run", two.run(20000), 0);
        DUE.due("score", two.score(), 103);
    }

    private static void zeroIsAScore() {
        DUE.sentence("The SCORE of what was found (0)");
        GridFills fills = new GridFills(2, 1);
        Grids.words(fills, "ab");
        DUE.due("run", fills.run(20000), 0);
        DUE.due("score", fills.score(), 0);
        GridFills one = new GridFills(1, 1);
        DUE.due("run", one.run(0), 0);
        DUE.due("of no words", one.score(), 0);
    }

    private static void theGreatestThereCanBe() {
        DUE.sentence("The SCORE of what was found (22 words of 1,000)");
        GridFills fills = Grids.mostSlotsWithWords(1000);
        DUE.due("run", fills.run(20000), 0);
        DUE.due("score", fills.score(), 22000);
        DUE.due("check", fills.check(), 0);
        for (int slot = 0; slot < 22; slot++) {
            DUE.due("theme", fills.theme(slot, fills.slot(slot, 5)), true);
        }
        DUE.due("a step for each slot", fills.run(22), 0);
        DUE.due("score", fills.score(), 22000);
        DUE.due("one step less", fills.run(21), 2);
    }

    private static void nothingIsFoundYet() {
        DUE.sentence("-1 when nothing is");
        GridFills fills = Grids.square();
        DUE.due("no search yet", fills.score(), -1);
        DUE.due("refused", fills.run(-1), -1);
        DUE.due("score", fills.score(), -1);
        DUE.due("runs out", fills.run(1), 2);
        DUE.due("score", fills.score(), -1);
        DUE.due("runs out", fills.best(1), 2);
        DUE.due("score", fills.score(), -1);
        fills.given(0, 0, 'q');
        DUE.due("none", fills.run(20000), 1);
        DUE.due("score", fills.score(), -1);
        DUE.due("none", fills.best(20000), 1);
        DUE.due("score", fills.score(), -1);
        DUE.due("no search yet, no slots", new GridFills(1, 1).score(), -1);
    }

    private static void nothingIsFoundAnyMore() {
        DUE.sentence("-1 when nothing is (any more)");
        GridFills fills = Grids.square();
        DUE.due("run", fills.run(20000), 0);
        DUE.due("black", fills.black(0, 0, true), true);
        DUE.due("score", fills.score(), -1);
        DUE.due("not black", fills.black(0, 0, false), true);
        DUE.due("it does not come back", fills.score(), -1);
        DUE.due("run", fills.run(20000), 0);
        DUE.due("runs out", fills.run(1), 2);
        DUE.due("score", fills.score(), -1);
    }

    private static void othersDoNotMatter() {
        DUE.sentence("The SCORE of what was found (whatever came since)");
        GridFills fills = Grids.square();
        DUE.due("run", fills.run(20000), 0);
        Grids.word(fills, "zz", 1000);
        fills.given(0, 0, 'q');
        fills.theme(0, 4);
        fills.run(-1);
        DUE.due("score", fills.score(), 10);
    }
}
