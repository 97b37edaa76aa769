/** Promise 14: letter. */
final class Promise14Test {
    private static final Answers DUE = new Answers();

    public static void main(String[] args) {
        ofWhatWasFound();
        ofEachDirection();
        blackCellsHaveNone();
        cellsOfNoSlotHaveNone();
        nothingIsFound();
        nothingIsFoundAnyMore();
        noSuchCell();
        givenSince();
        DUE.end();
    }

    private static void ofWhatWasFound() {
        DUE.sentence("The letter of a cell in what was found");
        GridFills fills = new GridFills(6, 2);
        Grids.words(fills, "abcdef", "uvwxyz", "au", "bv", "cw", "dx", "ey", "fz");
        fills.theme(0, 0);
        DUE.due("run", fills.run(20000), 0);
        String cells = "abcdefuvwxyz";
        for (int cell = 0; cell < 12; cell++) {
            DUE.due("letter", fills.letter(cell % 6, cell / 6), cells.charAt(cell));
        }
    }

    private static void ofEachDirection() {
        DUE.sentence("The letter of a cell (of a slot to the right alone, of one down alone, of both)");
        GridFills fills = Grids.grid("..#", "##.", "...");
        Grids.words(fills, "ab", "cd", "xyd");
        fills.given(2, 1, 'c');
        DUE.due("run", fills.run(20000), 0);
        DUE.due("to the right alone", fills.letter(1, 0), 'b');
        DUE.due("down alone", fills.letter(2, 1), 'c');
        DUE.due("both", fills.letter(2, 2), 'd');
        DUE.due("found", Grids.found(fills, 3, 3), "ab./..c/xyd");
    }

    private static void blackCellsHaveNone() {
        DUE.sentence("0 when it has none (a black cell)");
        GridFills fills = Grids.grid("..#..");
        Grids.words(fills, "ab", "cd");
        DUE.due("run", fills.run(20000), 0);
        DUE.due("black", fills.letter(2, 0), 0);
        DUE.due("beside it", fills.letter(1, 0), 'b');
        DUE.due("beside it", fills.letter(3, 0), 'c');
    }

    private static void cellsOfNoSlotHaveNone() {
        DUE.sentence("0 when it has none (a cell of no slot)");
        GridFills fills = Grids.grid("..#.");
        Grids.words(fills, "ab");
        DUE.due("run", fills.run(20000), 0);
        DUE.due("of no slot", fills.letter(3, 0), 0);
        DUE.due("given", fills.given(3, 0, 'c'), true);
        DUE.due("run", fills.run(20000), 0);
        DUE.due("of no slot, though one is given", fills.letter(3, 0), 0);
    }

    private static void nothingIsFound() {
        DUE.sentence("0 when .. nothing is found");
        GridFills fills = Grids.square();
        DUE.due("no search yet", Grids.found(fills, 2, 2), "../..");
        fills.given(0, 0, 'a');
        DUE.due("given", fills.letter(0, 0), 0);
        fills.theme(0, 0);
        DUE.due("theme", fills.letter(1, 0), 0);
        DUE.due("runs out", fills.run(3), 2);
        DUE.due("letters", Grids.found(fills, 2, 2), "../..");
        fills.given(0, 0, 'q');
        DUE.due("none", fills.run(20000), 1);
        DUE.due("letters", Grids.found(fills, 2, 2), "../..");
    }

    private static void nothingIsFoundAnyMore() {
        DUE.sentence("0 when .. nothing is found (any more)");
        GridFills fills = Grids.square();
        DUE.due("run", fills.run(20000), 0);
        DUE.due("letter", fills.letter(0, 0), 'a');
        DUE.due("runs out", fills.run(0), 2);
        DUE.due("letters", Grids.found(fills, 2, 2), "../..");
        DUE.due("run", fills.run(20000), 0);
        DUE.due("black", fills.black(1, 1, true), true);
        DUE.due("letters", Grids.found(fills, 2, 2), "../..");
    }

    private static void noSuchCell() {
        DUE.sentence("-1 when there is no such cell");
        int[][] sizes = {{1, 1}, {3, 2}, {2, 3}, {4, 4}, {6, 6}};
        for (int[] size : sizes) {
            GridFills fills = new GridFills(size[0], size[1]);
            for (int[] cell : Grids.noCells(size[0], size[1])) {
                DUE.due("letter " + cell[0] + " " + cell[1], fills.letter(cell[0], cell[1]), -1);
            }
        }
        GridFills filled = Grids.square();
        DUE.due("run", filled.run(20000), 0);
        for (int[] cell : Grids.noCells(2, 2)) {
            DUE.due("letter " + cell[0] + " " + cell[1], filled.letter(cell[0], cell[1]), -1);
        }
    }

    private static void givenSince() {
        DUE.sentence("The letter of a cell in what was found (whatever came since)");
        GridFills fills = Grids.square();
        DUE.due("run", fills.run(20000), 0);
        fills.given(0, 0, 'q');
        fills.theme(0, 0);
        Grids.words(fills, "zz");
        DUE.due("letters", Grids.found(fills, 2, 2), "ac/bd");
    }
}
