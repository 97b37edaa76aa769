/** Promise 2: black. */
final class Promise02Test {
    private static final Answers DUE = new Answers();

    public static void main(String[] args) {
        aCellIsBlackOrNot();
        eachCellCanBeBlack();
        noSuchCell();
        soAlready();
        themesAreGone();
        givenLettersAreGone();
        whatWasFoundIsGone();
        whatIsRefusedChangesNothing();
        allElseStays();
        DUE.end();
    }

    private static void aCellIsBlackOrNot() {
        DUE.sentence("A cell is BLACK, or not: true");
        GridFills fills = new GridFills(5, 1);
        DUE.due("black", fills.black(2, 0, true), true);
        DUE.due("slots", fills.slots(), 2);
        DUE.due("length", fills.slot(0, 1), 2);
        DUE.due("not black", fills.black(2, 0, false), true);
        DUE.due("slots", fills.slots(), 1);
        DUE.due("length", fills.slot(0, 1), 5);
        DUE.due("black again", fills.black(2, 0, true), true);
        DUE.due("slots", fills.slots(), 2);
    }

    private static void eachCellCanBeBlack() {
        DUE.sentence("A cell is BLACK, or not: true (the first one, the last one, all of them)");
        for (int side = 1; side <= 6; side++) {
            GridFills fills = new GridFills(side, 7 - side);
            for (int y = 0; y < 7 - side; y++) {
                for (int x = 0; x < side; x++) {
                    DUE.due("black " + x + " " + y, fills.black(x, y, true), true);
                }
            }
            DUE.due("no slots are left", fills.slots(), 0);
            DUE.due("no parts are left", fills.parts(), 0);
            DUE.due("the last one", fills.black(side - 1, 6 - side, false), true);
            DUE.due("the only part", fills.parts(), 1);
        }
    }

    private static void noSuchCell() {
        DUE.sentence("false when there is no such cell");
        int[][] sizes = {{4, 3}, {3, 4}, {1, 1}, {6, 6}};
        for (int[] size : sizes) {
            GridFills fills = new GridFills(size[0], size[1]);
            for (int[] cell : Grids.noCells(size[0], size[1])) {
                String place = " " + cell[0] + " " + cell[1];
                DUE.due("black" + place, fills.black(cell[0], cell[1], true), false);
                DUE.due("not black" + place, fills.black(cell[0], cell[1], false), false);
            }
            DUE.due("nothing is black", fills.alike(0) && fills.alike(1) && fills.parts() == 1, true);
        }
    }

    private static void soAlready() {
        DUE.sentence("false when .. it is so already");
        GridFills fills = new GridFills(2, 2);
        DUE.due("not black from the start", fills.black(1, 0, false), false);
        DUE.due("black", fills.black(1, 0, true), true);
        DUE.due("black already", fills.black(1, 0, true), false);
        DUE.due("black already", fills.black(1, 0, true), false);
        DUE.due("another one", fills.black(0, 1, true), true);
        DUE.due("not black", fills.black(1, 0, false), true);
        DUE.due("not black already", fills.black(1, 0, false), false);
        DUE.due("the other one is black", fills.black(0, 1, true), false);
    }

    private static void themesAreGone() {
        DUE.sentence("All themes .. are gone then");
        GridFills fills = Grids.grid("..", "#.", "..");
        Grids.words(fills, "ab", "cd", "abc");
        fills.theme(0, 0);
        fills.theme(1, 1);
        fills.theme(2, 2);
        fills.black(0, 1, false);
        dueNoThemes(fills, 5);
        fills.theme(0, 0);
        fills.theme(2, 1);
        fills.theme(4, 2);
        fills.black(0, 2, true);
        dueNoThemes(fills, 4);
    }

    private static void dueNoThemes(GridFills fills, int slots) {
        DUE.due("slots", fills.slots(), slots);
        for (int slot = 0; slot < slots; slot++) {
            DUE.due("theme of " + slot, fills.slot(slot, 3), -1);
            DUE.due("candidates of " + slot, fills.slot(slot, 4), fills.slot(slot, 1) == 2 ? 2 : 1);
        }
    }

    private static void givenLettersAreGone() {
        DUE.sentence("All .. given letters are gone then");
        boolean[] turns = {true, false};
        for (boolean on : turns) {
            // The slot of the first two cells stays as it is, but for its letters.
            GridFills fills = on ? Grids.grid("..#...") : Grids.grid("..#..#");
            Grids.words(fills, "ab", "cd");
            fills.given(0, 0, 'a');
            fills.given(1, 0, 'x');
            DUE.due("given", fills.slot(0, 4), 0);
            DUE.due("black", fills.black(5, 0, on), true);
            DUE.due("given no more", fills.slot(0, 4), 2);
        }
        GridFills itself = new GridFills(2, 1);
        Grids.words(itself, "ab", "cd");
        itself.given(1, 0, 'x');
        DUE.due("the cell itself", itself.black(1, 0, true), true);
        DUE.due("the cell itself", itself.black(1, 0, false), true);
        DUE.due("given no more", itself.slot(0, 4), 2);
    }

    private static void whatWasFoundIsGone() {
        DUE.sentence("All .. gone then, and what was found");
        boolean[] turns = {true, false};
        for (boolean on : turns) {
            GridFills fills = on ? Grids.grid("..#...") : Grids.grid("..#..#");
            Grids.words(fills, "ab", "cd", "efg");
            DUE.due("run", fills.run(9), 0);
            DUE.due("score", fills.score(), 0);
            DUE.due("black", fills.black(5, 0, on), true);
            DUE.due("score", fills.score(), -1);
            DUE.due("check", fills.check(), -1);
            DUE.due("slot 0", fills.slot(0, 5), -1);
            DUE.due("slot 1", fills.slot(1, 5), -1);
            DUE.due("letters", Grids.found(fills, 6, 1), "......");
        }
    }

    private static void whatIsRefusedChangesNothing() {
        DUE.sentence("All themes and given letters are gone then (not when it is refused)");
        GridFills fills = Grids.grid("..#..");
        Grids.words(fills, "ab", "cd", "ef");
        fills.theme(0, 1);
        fills.given(3, 0, 'e');
        DUE.due("run", fills.run(9), 0);
        String before = Grids.state(fills, 5, 1);
        DUE.due("black already", fills.black(2, 0, true), false);
        DUE.due("not black already", fills.black(0, 0, false), false);
        DUE.due("no such cell", fills.black(5, 0, true), false);
        DUE.due("no such cell", fills.black(0, 1, false), false);
        DUE.due("state", Grids.state(fills, 5, 1), before);
        DUE.due("theme", fills.slot(0, 3), 1);
        DUE.due("given", fills.slot(1, 4), 1);
        DUE.due("found", Grids.found(fills, 5, 1), "cd.ef");
    }

    private static void allElseStays() {
        DUE.sentence("Nothing is promised beyond the answers and state changes described");
        GridFills fills = new GridFills(3, 1);
        Grids.words(fills, "abc", "abd", "ab");
        DUE.due("best", fills.best(9), 0);
        fills.unit('x');
        DUE.due("black", fills.black(2, 0, true), true);
        DUE.due("steps", fills.steps(), 2);
        DUE.due("many", fills.many(), 2);
        fills.unit('y');
        DUE.due("xy", fills.word(1), 3);
        DUE.due("ab and xy", fills.slot(0, 4), 2);
    }
}
