/** Promise 5: given. */
final class Promise05Test {
    private static final Answers DUE = new Answers();

    public static void main(String[] args) {
        aLetterIsGiven();
        anotherLetterIsGiven();
        notAnyMore();
        notAnyMoreWithoutOne();
        noSuchCell();
        blackCells();
        noLetterNorZero();
        cellsOfOneSlotAndOfNone();
        whatWasFoundStays();
        DUE.end();
    }

    private static GridFills pair() {
        GridFills fills = new GridFills(2, 1);
        Grids.words(fills, "ab", "az", "zb", "zz");
        return fills;
    }

    private static void aLetterIsGiven() {
        DUE.sentence("A letter is given at a cell: true");
        GridFills fills = pair();
        DUE.due("a, the first letter", fills.given(0, 0, 97), true);
        DUE.due("candidates", fills.slot(0, 4), 2);
        DUE.due("z, the last letter", fills.given(1, 0, 122), true);
        DUE.due("candidates", fills.slot(0, 4), 1);
        DUE.due("run", fills.run(1), 0);
        DUE.due("found", Grids.found(fills, 2, 1), "az");
        GridFills large = new GridFills(6, 6);
        Grids.words(large, "aaaaab", "aaaaac");
        DUE.due("the last cell", large.given(5, 5, 'b'), true);
        DUE.due("the last slot to the right", large.slot(5, 4), 1);
        DUE.due("the last slot down", large.slot(11, 4), 1);
        DUE.due("another slot", large.slot(10, 4), 2);
    }

    private static void anotherLetterIsGiven() {
        DUE.sentence("A letter is given at a cell: true (where one is given already)");
        GridFills fills = pair();
        DUE.due("a", fills.given(0, 0, 'a'), true);
        DUE.due("a again", fills.given(0, 0, 'a'), true);
        DUE.due("z", fills.given(0, 0, 'z'), true);
        DUE.due("run", fills.run(1), 0);
        DUE.due("found", Grids.found(fills, 2, 1), "zb");
        DUE.due("q", fills.given(0, 0, 'q'), true);
        DUE.due("candidates", fills.slot(0, 4), 0);
    }

    private static void notAnyMore() {
        DUE.sentence("or (0) not any more: true");
        GridFills fills = pair();
        fills.given(0, 0, 'q');
        fills.given(1, 0, 'z');
        DUE.due("not any more", fills.given(0, 0, 0), true);
        DUE.due("z is still given", fills.slot(0, 4), 2);
        DUE.due("not any more", fills.given(1, 0, 0), true);
        DUE.due("none is given", fills.slot(0, 4), 4);
    }

    private static void notAnyMoreWithoutOne() {
        DUE.sentence("or (0) not any more: true (where none is given)");
        GridFills fills = pair();
        DUE.due("none was given", fills.given(1, 0, 0), true);
        DUE.due("again", fills.given(1, 0, 0), true);
        DUE.due("candidates", fills.slot(0, 4), 4);
    }

    private static void noSuchCell() {
        DUE.sentence("false, doing nothing, when there is no such cell");
        GridFills fills = new GridFills(3, 2);
        Grids.words(fills, "abc", "abd", "ab", "cd");
        fills.given(0, 0, 'a');
        String before = Grids.state(fills, 3, 2);
        for (int[] cell : Grids.noCells(3, 2)) {
            String place = cell[0] + " " + cell[1];
            DUE.due("q at " + place, fills.given(cell[0], cell[1], 'q'), false);
            DUE.due("0 at " + place, fills.given(cell[0], cell[1], 0), false);
        }
        DUE.due("state", Grids.state(fills, 3, 2), before);
    }

    private static void blackCells() {
        DUE.sentence("false, doing nothing, when .. it is black");
        GridFills fills = Grids.grid("..#", "...");
        Grids.words(fills, "abc", "ab", "cd");
        String before = Grids.state(fills, 3, 2);
        DUE.due("q", fills.given(2, 0, 'q'), false);
        DUE.due("0", fills.given(2, 0, 0), false);
        DUE.due("96", fills.given(2, 0, 96), false);
        DUE.due("state", Grids.state(fills, 3, 2), before);
        DUE.due("not black", fills.black(2, 0, false), true);
        DUE.due("nothing is given there", fills.slot(0, 4), 1);
        DUE.due("now it can be", fills.given(2, 0, 'q'), true);
        DUE.due("q is given there", fills.slot(0, 4), 0);
    }

    private static void noLetterNorZero() {
        DUE.sentence("false, doing nothing, when .. u is no letter, nor 0");
        GridFills fills = pair();
        fills.given(0, 0, 'a');
        for (int u : Grids.beyond(97, 122)) {
            DUE.due("given " + u, fills.given(0, 0, u), false);
            DUE.due("given " + u, fills.given(1, 0, u), false);
        }
        for (int u : new int[] {-1, 1, 2, 25, 26, 32, 48, 65, 90, 127, 128, 256, 65536, -97}) {
            DUE.due("given " + u, fills.given(0, 0, u), false);
        }
        DUE.due("a is still given", fills.slot(0, 4), 2);
    }

    private static void cellsOfOneSlotAndOfNone() {
        DUE.sentence("A letter is given at a cell (of one slot, of none)");
        GridFills fills = Grids.grid("..#.", "####", "..##");
        Grids.words(fills, "ab", "cd");
        DUE.due("of one slot", fills.given(0, 0, 'c'), true);
        DUE.due("of none", fills.given(3, 0, 'q'), true);
        DUE.due("of none, not any more", fills.given(3, 0, 0), true);
        DUE.due("of none", fills.given(3, 0, 'x'), true);
        DUE.due("run", fills.run(9), 0);
        DUE.due("found", Grids.found(fills, 4, 3), "cd../..../ab..");
    }

    private static void whatWasFoundStays() {
        DUE.sentence("What was found is (still) a filling");
        GridFills fills = pair();
        DUE.due("run", fills.run(1), 0);
        fills.given(0, 0, 'z');
        DUE.due("score", fills.score(), 0);
        DUE.due("word", fills.slot(0, 5), 0);
        DUE.due("found", Grids.found(fills, 2, 1), "ab");
        DUE.due("steps", fills.steps(), 1);
        DUE.due("many", fills.many(), 1);
    }
}
