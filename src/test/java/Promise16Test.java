/** Promise 16: alike. */
final class Promise16Test {
    private static final Answers DUE = new Answers();

    public static void main(String[] args) {
        halfATurn();
        leftAndRight();
        upAndDown();
        onTheCorner();
        onTheCornerWhenNotSquare();
        noBlackCells();
        blackCellsAlone();
        linesOfOneCell();
        eachCellAlone();
        others();
        blackCellsThatAreNoMore();
        DUE.end();
    }

    private static void halfATurn() {
        DUE.sentence("kind 0 by half a turn");
        DUE.due("corners", Grids.grid("#..", "...", "..#").alike(0), true);
        DUE.due("other corners", Grids.grid("...#", "....", "#...").alike(0), true);
        DUE.due("the middle", Grids.grid("...", ".#.", "...").alike(0), true);
        DUE.due("not square", Grids.grid("#...", "...#").alike(0), true);
        DUE.due("one corner", Grids.grid("#..", "...", "...").alike(0), false);
        DUE.due("two corners of one side", Grids.grid("#.#", "...", "...").alike(0), false);
        DUE.due("beside the middle", Grids.grid("....", ".#..", "....").alike(0), false);
    }

    private static void leftAndRight() {
        DUE.sentence("1 left and right");
        DUE.due("two corners above", Grids.grid("#.#", "...", "...").alike(1), true);
        DUE.due("the middle column", Grids.grid(".#.", "...", "...").alike(1), true);
        DUE.due("not square", Grids.grid("#..#", "....").alike(1), true);
        DUE.due("two middle columns", Grids.grid(".##.", "....").alike(1), true);
        DUE.due("two corners at the left", Grids.grid("#..", "...", "#..").alike(1), false);
        DUE.due("by half a turn", Grids.grid("#..", "...", "..#").alike(1), false);
        DUE.due("in another line", Grids.grid("#...", "...#").alike(1), false);
    }

    private static void upAndDown() {
        DUE.sentence("2 up and down");
        DUE.due("two corners at the left", Grids.grid("#..", "...", "#..").alike(2), true);
        DUE.due("the middle row", Grids.grid("...", "#..", "...").alike(2), true);
        DUE.due("not square", Grids.grid(".#..", ".#..").alike(2), true);
        DUE.due("two corners above", Grids.grid("#.#", "...", "...").alike(2), false);
        DUE.due("by half a turn", Grids.grid("#..", "...", "..#").alike(2), false);
        DUE.due("in another column", Grids.grid("#.", "..", "..", ".#").alike(2), false);
    }

    private static void onTheCorner() {
        DUE.sentence("3 on the corner");
        DUE.due("a corner on the line", Grids.grid("#..", "...", "...").alike(3), true);
        DUE.due("the line", Grids.grid("#..", ".#.", "..#").alike(3), true);
        DUE.due("beside the corner", Grids.grid(".#.", "#..", "...").alike(3), true);
        DUE.due("the other two corners", Grids.grid("..#", "...", "#..").alike(3), true);
        DUE.due("one of the other corners", Grids.grid("..#", "...", "...").alike(3), false);
        DUE.due("a row alone", Grids.grid("...", "###", "...").alike(3), false);
        // Neither the other corners' line nor a quarter turn is what is asked for.
        DUE.due("the other line", Grids.grid(".#.", "..#", "...").alike(3), false);
        DUE.due("a quarter turn", Grids.grid(".#..", "...#", "#...", "..#.").alike(3), false);
    }

    private static void onTheCornerWhenNotSquare() {
        DUE.sentence("false .. (and 3 when W is not H)");
        for (int width = 1; width <= 6; width++) {
            for (int height = 1; height <= 6; height++) {
                GridFills fills = new GridFills(width, height);
                DUE.due(width + " x " + height, fills.alike(3), width == height);
            }
        }
        DUE.due("black cells alone, in a row", Grids.grid("##").alike(3), false);
        DUE.due("black cells alone, in a column", Grids.grid("#", "#").alike(3), false);
        DUE.due("a corner", Grids.grid("#..", "...").alike(3), false);
        // Such that what is not black is a square.
        DUE.due("a black column", Grids.grid("..#", "..#").alike(3), false);
        DUE.due("a black row", Grids.grid("..", "..", "##").alike(3), false);
        DUE.due("the sides are held first", new GridFills(9, 7).alike(3), true);
    }

    private static void noBlackCells() {
        DUE.sentence("Whether the black cells are alike (there are none)");
        for (int width = 1; width <= 6; width++) {
            for (int height = 1; height <= 6; height++) {
                GridFills fills = new GridFills(width, height);
                for (int kind = 0; kind < 3; kind++) {
                    DUE.due(width + " x " + height + " alike " + kind, fills.alike(kind), true);
                }
            }
        }
    }

    private static void blackCellsAlone() {
        DUE.sentence("Whether the black cells are alike (all are)");
        GridFills[] grids = {Grids.grid("#"), Grids.grid("##", "##"), Grids.grid("##", "##", "##")};
        for (GridFills fills : grids) {
            for (int kind = 0; kind < 3; kind++) {
                DUE.due("alike " + kind, fills.alike(kind), true);
            }
        }
        DUE.due("alike 3", Grids.grid("###", "###", "###").alike(3), true);
    }

    private static void linesOfOneCell() {
        DUE.sentence("Whether the black cells are alike (a side of one cell)");
        GridFills row = Grids.grid("#..");
        DUE.due("alike 0", row.alike(0), false);
        DUE.due("alike 1", row.alike(1), false);
        DUE.due("alike 2", row.alike(2), true);
        GridFills column = Grids.grid("#", ".", ".");
        DUE.due("alike 0", column.alike(0), false);
        DUE.due("alike 1", column.alike(1), true);
        DUE.due("alike 2", column.alike(2), false);
    }

    private static void eachCellAlone() {
        DUE.sentence("Whether the black cells are alike when turned (each cell has its image)");
        for (int cell = 0; cell < 25; cell++) {
            int x = cell % 5;
            int y = cell / 5;
            GridFills fills = new GridFills(5, 5);
            fills.black(x, y, true);
            DUE.due("alike(0) of " + cell, fills.alike(0), x == 2 && y == 2);
            DUE.due("alike(1) of " + cell, fills.alike(1), x == 2);
            DUE.due("alike(2) of " + cell, fills.alike(2), y == 2);
            DUE.due("alike(3) of " + cell, fills.alike(3), x == y);
        }
    }

    private static void others() {
        DUE.sentence("false for others");
        GridFills fills = new GridFills(3, 3);
        for (int kind : Grids.beyond(0, 3)) {
            DUE.due("alike(" + kind + ")", fills.alike(kind), false);
        }
    }

    private static void blackCellsThatAreNoMore() {
        DUE.sentence("Whether the black cells are alike (as they are)");
        GridFills fills = new GridFills(4, 4);
        fills.black(0, 0, true);
        DUE.due("alike(0)", fills.alike(0), false);
        fills.black(3, 3, true);
        DUE.due("alike(0)", fills.alike(0), true);
        fills.black(0, 0, false);
        DUE.due("alike(0)", fills.alike(0), false);
        fills.given(0, 0, 'a');
        fills.black(3, 3, false);
        DUE.due("alike(0)", fills.alike(0), true);
    }
}
