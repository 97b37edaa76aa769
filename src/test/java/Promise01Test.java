/** Promise 1: a new object. */
final class Promise01Test {
    private static final Answers DUE = new Answers();

    public static void main(String[] args) {
        noBlackCells();
        noWords();
        nothingGiven();
        nothingFound();
        belowCountsAsOne();
        aboveCountsAsSix();
        betweenCountsAsItIs();
        DUE.end();
    }

    private static void noBlackCells() {
        DUE.sentence("No black cells");
        for (int width = 1; width <= 6; width++) {
            for (int height = 1; height <= 6; height++) {
                GridFills fills = new GridFills(width, height);
                DUE.due("parts", fills.parts(), 1);
                DUE.due("slots", fills.slots(), slotsOf(width, height));
                for (int cell = 0; cell < width * height; cell++) {
                    DUE.due("is so already", fills.black(cell % width, cell / width, false), false);
                }
            }
        }
    }

    private static int slotsOf(int width, int height) {
        return (width > 1 ? height : 0) + (height > 1 ? width : 0);
    }

    private static void noWords() {
        DUE.sentence("no words");
        GridFills fills = new GridFills(6, 6);
        DUE.due("no word is a theme", fills.theme(0, 0), false);
        DUE.due("no letter is collected", fills.word(1), -1);
        for (int slot = 0; slot < 12; slot++) {
            DUE.due("candidates", fills.slot(slot, 4), 0);
        }
        DUE.due("run", fills.run(20000), 1);
        DUE.due("the first word", Grids.word(fills, "ab", 1), 0);
    }

    private static void nothingGiven() {
        DUE.sentence("nothing given");
        GridFills fills = new GridFills(3, 2);
        Grids.words(fills, "abc", "xyz", "mn", "no", "op");
        for (int slot = 0; slot < 5; slot++) {
            DUE.due("theme", fills.slot(slot, 3), -1);
            DUE.due("candidates", fills.slot(slot, 4), slot < 2 ? 2 : 3);
        }
    }

    private static void nothingFound() {
        DUE.sentence("A new object");
        GridFills fills = new GridFills(3, 2);
        DUE.due("steps", fills.steps(), 0);
        DUE.due("many", fills.many(), 0);
        DUE.due("score", fills.score(), -1);
        DUE.due("check", fills.check(), -1);
        DUE.due("letters", Grids.found(fills, 3, 2), ".../...");
        for (int slot = 0; slot < 5; slot++) {
            DUE.due("word", fills.slot(slot, 5), -1);
        }
    }

    /** The sides by where cells end. */
    private static void dueSides(int width, int height, int heldWidth, int heldHeight) {
        GridFills fills = new GridFills(width, height);
        String made = "new (" + width + ", " + height + ") ";
        DUE.due(made + "corner", fills.letter(heldWidth - 1, heldHeight - 1), 0);
        DUE.due(made + "right of it", fills.letter(heldWidth, heldHeight - 1), -1);
        DUE.due(made + "below it", fills.letter(heldWidth - 1, heldHeight), -1);
        DUE.due(made + "slots", fills.slots(), slotsOf(heldWidth, heldHeight));
    }

    private static void belowCountsAsOne() {
        DUE.sentence("what is below counts as 1");
        for (int side : new int[] {0, -1, -2, -6, Integer.MIN_VALUE, Integer.MIN_VALUE + 1}) {
            dueSides(side, 3, 1, 3);
            dueSides(3, side, 3, 1);
            dueSides(side, side, 1, 1);
        }
    }

    private static void aboveCountsAsSix() {
        DUE.sentence("what is above as 6");
        for (int side : new int[] {7, 8, 36, 256, Integer.MAX_VALUE - 1, Integer.MAX_VALUE}) {
            dueSides(side, 3, 6, 3);
            dueSides(3, side, 3, 6);
            dueSides(side, side, 6, 6);
            dueSides(side, -side, 6, 1);
        }
    }

    private static void betweenCountsAsItIs() {
        DUE.sentence("width and height are held to 1 to 6");
        for (int width = 1; width <= 6; width++) {
            for (int height = 1; height <= 6; height++) {
                dueSides(width, height, width, height);
            }
        }
    }
}
