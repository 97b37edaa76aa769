/** Promise 8: slot. */
final class Promise08Test {
    private static final Answers DUE = new Answers();

    public static void main(String[] args) {
        itsFirstCell();
        howManyCells();
        whetherItGoesDown();
        itsTheme();
        noTheme();
        howManyCandidates();
        howManyCandidatesOfManyWords();
        candidatesWhenNoSlotHasAWord();
        itsWord();
        noWord();
        others();
        noSuchSlot();
        DUE.end();
    }

    /** Slots 0 to 3 go to the right, 4 to 7 down. */
    private static GridFills rows() {
        return Grids.grid("..#..", "#....", ".....");
    }

    private static void dueAll(GridFills fills, int what, int... wanted) {
        DUE.due("slots", fills.slots(), wanted.length);
        for (int slot = 0; slot < wanted.length; slot++) {
            DUE.due("slot(" + slot + ", " + what + ")", fills.slot(slot, what), wanted[slot]);
        }
    }

    private static void itsFirstCell() {
        DUE.sentence("0 its first cell");
        dueAll(rows(), 0, 0, 3, 6, 10, 1, 3, 4, 7);
        dueAll(Grids.grid("#.", "..", ".."), 0, 2, 4, 1, 2);
    }

    private static void howManyCells() {
        DUE.sentence("1 how many cells");
        dueAll(rows(), 1, 2, 2, 4, 5, 3, 3, 3, 2);
        dueAll(new GridFills(6, 1), 1, 6);
        dueAll(new GridFills(1, 6), 1, 6);
        dueAll(new GridFills(2, 1), 1, 2);
    }

    private static void whetherItGoesDown() {
        DUE.sentence("2 whether it goes down (1, 0)");
        dueAll(rows(), 2, 0, 0, 0, 0, 1, 1, 1, 1);
        dueAll(new GridFills(6, 1), 2, 0);
        dueAll(new GridFills(1, 6), 2, 1);
    }

    private static void itsTheme() {
        DUE.sentence("3 its theme");
        GridFills fills = Grids.square();
        fills.theme(0, 0);
        fills.theme(3, 2);
        dueAll(fills, 3, 0, -1, -1, 2);
    }

    private static void noTheme() {
        DUE.sentence("3 its theme (-1: none)");
        GridFills fills = Grids.square();
        dueAll(fills, 3, -1, -1, -1, -1);
        fills.theme(0, 0);
        fills.theme(0, -1);
        dueAll(fills, 3, -1, -1, -1, -1);
        DUE.due("run", fills.run(20000), 0);
        dueAll(fills, 3, -1, -1, -1, -1);
    }

    private static void howManyCandidates() {
        DUE.sentence("4 how many CANDIDATES it has");
        GridFills fills = new GridFills(3, 2);
        dueAll(fills, 4, 0, 0, 0, 0, 0);
        Grids.words(fills, "abc", "abd", "xbc", "ab", "xa", "abcd");
        dueAll(fills, 4, 3, 3, 2, 2, 2);
        fills.given(0, 0, 'a');
        dueAll(fills, 4, 2, 3, 1, 2, 2);
        fills.given(1, 0, 'b');
        fills.given(2, 0, 'c');
        dueAll(fills, 4, 1, 3, 1, 0, 0);
        fills.theme(1, 2);
        dueAll(fills, 4, 1, 1, 1, 0, 0);
        fills.given(0, 1, 'q');
        dueAll(fills, 4, 1, 0, 0, 0, 0);
    }

    private static void howManyCandidatesOfManyWords() {
        DUE.sentence("4 how many CANDIDATES it has (of 80 words)");
        GridFills fills = Grids.grid("..#...");
        for (int number = 0; number < 80; number++) {
            String text = "" + (char) ('a' + number / 10) + (char) ('a' + number % 10) + "x";
            // Each comes before all that were there.
            DUE.due("word", Grids.word(fills, text.substring(0, 2 + number % 2), number), number);
        }
        dueAll(fills, 4, 40, 40);
        fills.given(0, 0, 'a');
        fills.given(3, 0, 'h');
        dueAll(fills, 4, 5, 5);
        fills.theme(0, 0);
        fills.theme(1, 79);
        dueAll(fills, 4, 1, 1);
        fills.theme(1, 1);
        dueAll(fills, 4, 1, 0);
    }

    private static void candidatesWhenNoSlotHasAWord() {
        DUE.sentence("4 how many CANDIDATES it has when no slot has a word");
        GridFills fills = Grids.square();
        dueAll(fills, 4, 4, 4, 4, 4);
        DUE.due("run", fills.run(20000), 0);
        dueAll(fills, 4, 4, 4, 4, 4);
        DUE.due("best", fills.best(20000), 0);
        dueAll(fills, 4, 4, 4, 4, 4);
        DUE.due("a search that runs out", fills.run(2), 2);
        dueAll(fills, 4, 4, 4, 4, 4);
        fills.theme(0, 0);
        fills.theme(1, 0);
        DUE.due("another slot's theme is not used", fills.slot(1, 4), 1);
        DUE.due("another slot's theme is not used", fills.slot(2, 4), 4);
    }

    private static void itsWord() {
        DUE.sentence("5 the word that it has in what was found");
        GridFills fills = Grids.square();
        DUE.due("run", fills.run(20000), 0);
        dueAll(fills, 5, 1, 2, 0, 3);
        fills.theme(0, 0);
        dueAll(fills, 5, 1, 2, 0, 3);
        DUE.due("best", fills.best(20000), 0);
        dueAll(fills, 5, 0, 3, 1, 2);
    }

    private static void noWord() {
        DUE.sentence("5 the word that it has in what was found (-1: none)");
        GridFills fills = Grids.square();
        dueAll(fills, 5, -1, -1, -1, -1);
        DUE.due("best", fills.best(20000), 0);
        DUE.due("runs out", fills.run(1), 2);
        dueAll(fills, 5, -1, -1, -1, -1);
        DUE.due("best", fills.best(20000), 0);
        fills.given(0, 0, 'q');
        DUE.due("none", fills.run(20000), 1);
        dueAll(fills, 5, -1, -1, -1, -1);
        fills.given(0, 0, 0);
        DUE.due("best", fills.best(20000), 0);
        fills.black(0, 0, true);
        dueAll(fills, 5, -1, -1);
    }

    private static void others() {
        DUE.sentence("-1 for others");
        GridFills fills = Grids.square();
        DUE.due("run", fills.run(20000), 0);
        for (int what : Grids.beyond(0, 5)) {
            for (int slot = 0; slot < 4; slot++) {
                DUE.due("slot(" + slot + ", " + what + ")", fills.slot(slot, what), -1);
            }
        }
    }

    private static void noSuchSlot() {
        DUE.sentence("-1 .. when there is no such slot");
        GridFills fills = Grids.square();
        DUE.due("run", fills.run(20000), 0);
        for (int slot : Grids.beyond(0, 3)) {
            for (int what = -1; what <= 6; what++) {
                DUE.due("slot(" + slot + ", " + what + ")", fills.slot(slot, what), -1);
            }
        }
        GridFills one = new GridFills(1, 1);
        DUE.due("run", one.run(0), 0);
        for (int what = 0; what <= 5; what++) {
            DUE.due("slot(0, " + what + ")", one.slot(0, what), -1);
        }
        fills.black(1, 1, true);
        for (int what = 0; what <= 5; what++) {
            DUE.due("one that is no more", fills.slot(2, what), -1);
        }
    }
}
