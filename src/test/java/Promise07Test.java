/** Promise 7: slots. */
final class Promise07Test {
    private static final Answers DUE = new Answers();

    public static void main(String[] args) {
        ofAllSizes();
        thereAreNone();
        theMostThereCanBe();
        byBlackCells();
        byNothingElse();
        DUE.end();
    }

    private static void ofAllSizes() {
        DUE.sentence("How many slots there are.");
        for (int width = 1; width <= 6; width++) {
            for (int height = 1; height <= 6; height++) {
                int right = width > 1 ? height : 0;
                int down = height > 1 ? width : 0;
                DUE.due(width + " x " + height, new GridFills(width, height).slots(), right + down);
            }
        }
    }

    private static void thereAreNone() {
        DUE.sentence("How many slots there are (none).");
        DUE.due("one cell", new GridFills(1, 1).slots(), 0);
        DUE.due("one black cell", Grids.grid("#").slots(), 0);
        DUE.due("black cells alone", Grids.grid("###", "###").slots(), 0);
        DUE.due("single cells", Grids.grid(
                ".#.#.#",
                "#.#.#.",
                ".#.#.#",
                "#.#.#.",
                ".#.#.#",
                "#.#.#.").slots(), 0);
    }

    private static void theMostThereCanBe() {
        DUE.sentence("How many slots there are (as many as there can be).");
        GridFills fills = Grids.mostSlots();
        DUE.due("slots", fills.slots(), 22);
        DUE.due("the last one's first cell", fills.slot(21, 0), 27);
        DUE.due("the last one's length", fills.slot(21, 1), 2);
        DUE.due("it goes down", fills.slot(21, 2), 1);
        DUE.due("there is none behind it", fills.slot(22, 0), -1);
    }

    private static void byBlackCells() {
        DUE.sentence("A SLOT is a row of cells, not black");
        GridFills fills = new GridFills(5, 2);
        DUE.due("slots", fills.slots(), 7);
        fills.black(2, 0, true);
        DUE.due("one more to the right, one less down", fills.slots(), 7);
        fills.black(1, 0, true);
        DUE.due("one less to the right, one less down", fills.slots(), 5);
        fills.black(1, 0, false);
        fills.black(2, 0, false);
        DUE.due("as before", fills.slots(), 7);
    }

    private static void byNothingElse() {
        DUE.sentence("How many slots there are (with words, letters and themes).");
        GridFills fills = Grids.square();
        fills.given(0, 0, 'a');
        fills.theme(0, 0);
        DUE.due("run", fills.run(20000), 0);
        DUE.due("slots", fills.slots(), 4);
        fills.given(0, 0, 'q');
        DUE.due("run", fills.run(20000), 1);
        DUE.due("slots", fills.slots(), 4);
    }
}
