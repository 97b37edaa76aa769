/** Promise 15: check. */
final class Promise15Test {
    private static final Answers DUE = new Answers();

    public static void main(String[] args) {
        itIsAFilling();
        ofNoSlots();
        itIsStillAFilling();
        anotherThanItsTheme();
        aGivenLetterThatDiffers();
        theFirstSlotThatIsNotSo();
        theLastSlotThereCanBe();
        wordsThatCross();
        itIsAFillingAgain();
        nothingIsFound();
        nothingIsFoundAnyMore();
        DUE.end();
    }

    /** ab/cd: slots 0 ab, 1 cd to the right, 2 ac, 3 bd down; xx is not in it. */
    private static GridFills square() {
        GridFills fills = new GridFills(2, 2);
        Grids.word(fills, "ab", 9);
        Grids.words(fills, "cd", "ac", "bd", "xx");
        DUE.due("run", fills.run(20000), 0);
        DUE.due("found", Grids.found(fills, 2, 2), "ab/cd");
        return fills;
    }

    private static void itIsAFilling() {
        DUE.sentence("Whether what was found is (still) a filling: 0");
        DUE.due("check", square().check(), 0);
        GridFills wanted = Grids.square();
        wanted.given(0, 0, 'a');
        wanted.theme(3, 3);
        DUE.due("best", wanted.best(20000), 0);
        DUE.due("check", wanted.check(), 0);
        GridFills out = Grids.grid("..", ".#");
        Grids.words(out, "ab", "ac");
        DUE.due("best that runs out", out.best(2), 2);
        DUE.due("check", out.check(), 0);
    }

    private static void ofNoSlots() {
        DUE.sentence("a filling: 0 (of no slots)");
        GridFills fills = new GridFills(1, 1);
        DUE.due("run", fills.run(0), 0);
        DUE.due("check", fills.check(), 0);
        fills.given(0, 0, 'a');
        DUE.due("a cell of no slot has no letter", fills.check(), 0);
    }

    private static void itIsStillAFilling() {
        DUE.sentence("(still) a filling by the words, given letters and themes as they are: 0");
        GridFills fills = square();
        Grids.word(fills, "zz", 1000);
        DUE.due("more words", fills.check(), 0);
        fills.given(0, 0, 'a');
        fills.given(1, 1, 'd');
        DUE.due("letters that are there", fills.check(), 0);
        for (int slot = 0; slot < 4; slot++) {
            fills.theme(slot, fills.slot(slot, 5));
        }
        DUE.due("words that are there", fills.check(), 0);
        DUE.due("a cell that is so already", fills.black(0, 0, false), false);
        DUE.due("check", fills.check(), 0);
        GridFills alone = Grids.grid("..#.");
        Grids.words(alone, "ab");
        DUE.due("run", alone.run(1), 0);
        alone.given(3, 0, 'x');
        DUE.due("a letter at a cell of no slot", alone.check(), 0);
    }

    private static void anotherThanItsTheme() {
        DUE.sentence("1 and the first slot that is not so (its word another than its theme");
        for (int slot = 0; slot < 4; slot++) {
            GridFills fills = square();
            fills.theme(slot, 4);
            DUE.due("another theme at slot " + slot, fills.check(), 1 + slot);
        }
        GridFills first = square();
        first.theme(1, 0);
        DUE.due("word 0, which is elsewhere", first.check(), 2);
    }

    private static void aGivenLetterThatDiffers() {
        DUE.sentence("1 and the first slot that is not so (.. or a given letter that differs");
        int[] slots = {0, 0, 1, 1};
        for (int cell = 0; cell < 4; cell++) {
            GridFills fills = square();
            fills.given(cell % 2, cell / 2, 'x');
            DUE.due("x at cell " + cell, fills.check(), 1 + slots[cell]);
        }
        for (int place = 0; place < 6; place++) {
            GridFills right = new GridFills(6, 1);
            Grids.words(right, "abcdef");
            DUE.due("run", right.run(1), 0);
            right.given(place, 0, 'z');
            DUE.due("z at place " + place + ", to the right", right.check(), 1);
            GridFills down = new GridFills(1, 6);
            Grids.words(down, "abcdef");
            DUE.due("run", down.run(1), 0);
            down.given(0, place, 'z');
            DUE.due("z at place " + place + ", down", down.check(), 1);
        }
        GridFills downAlone = Grids.grid("..", "#.", "#.");
        Grids.words(downAlone, "ab", "bcd");
        DUE.due("run", downAlone.run(20000), 0);
        downAlone.given(1, 2, 'x');
        DUE.due("a cell of slot 1 alone", downAlone.check(), 2);
    }

    private static void theFirstSlotThatIsNotSo() {
        DUE.sentence("the first slot that is not so");
        GridFills fills = square();
        fills.theme(3, 4);
        DUE.due("slot 3", fills.check(), 4);
        fills.theme(2, 4);
        DUE.due("slots 2 and 3", fills.check(), 3);
        fills.given(0, 1, 'x');
        DUE.due("slots 1, 2 and 3", fills.check(), 2);
        fills.theme(0, 4);
        DUE.due("all of them", fills.check(), 1);
    }

    private static void theLastSlotThereCanBe() {
        DUE.sentence("1 and the first slot (the last one of 22)");
        GridFills fills = Grids.mostSlotsWithWords(0);
        DUE.due("run", fills.run(20000), 0);
        DUE.due("check", fills.check(), 0);
        int other = fills.slot(21, 5) == 0 ? 1 : 0;
        DUE.due("another theme", fills.theme(21, other), true);
        DUE.due("check", fills.check(), 22);
    }

    private static void wordsThatCross() {
        DUE.sentence("or one that crosses)");
        GridFills fills = Grids.grid("...", ".#.", "...");
        Grids.words(fills, "abc", "afg", "ghi", "cdi");
        DUE.due("run", fills.run(20000), 0);
        DUE.due("none differs", fills.check(), 0);
        String[] words = {"abc", "afg", "ghi", "cdi"};
        int[][] crossings = {{0, 0, 2, 0}, {0, 2, 3, 0}, {1, 0, 2, 2}, {1, 2, 3, 2}};
        for (int[] at : crossings) {
            DUE.due("letters that cross", words[fills.slot(at[0], 5)].charAt(at[1]),
                    words[fills.slot(at[2], 5)].charAt(at[3]));
        }
    }

    private static void itIsAFillingAgain() {
        DUE.sentence("given letters and themes as they are");
        GridFills fills = square();
        fills.theme(3, 4);
        DUE.due("another theme", fills.check(), 4);
        fills.theme(3, -1);
        DUE.due("none any more", fills.check(), 0);
        fills.given(1, 1, 'x');
        DUE.due("another letter", fills.check(), 2);
        fills.given(1, 1, 0);
        DUE.due("not any more", fills.check(), 0);
        fills.theme(0, 1);
        DUE.due("another theme", fills.check(), 1);
        fills.theme(0, 0);
        DUE.due("the word that is there", fills.check(), 0);
    }

    private static void nothingIsFound() {
        DUE.sentence("-1 when nothing is found");
        GridFills fills = Grids.square();
        DUE.due("no search yet", fills.check(), -1);
        fills.theme(0, 0);
        fills.given(1, 1, 'q');
        DUE.due("no search yet", fills.check(), -1);
        DUE.due("none", fills.run(20000), 1);
        DUE.due("check", fills.check(), -1);
        fills.given(1, 1, 0);
        DUE.due("runs out", fills.best(1), 2);
        DUE.due("check", fills.check(), -1);
        DUE.due("no slots", new GridFills(1, 1).check(), -1);
    }

    private static void nothingIsFoundAnyMore() {
        DUE.sentence("-1 when nothing is found (any more)");
        GridFills fills = square();
        DUE.due("black", fills.black(0, 0, true), true);
        DUE.due("check", fills.check(), -1);
        GridFills later = square();
        DUE.due("runs out", later.run(0), 2);
        DUE.due("check", later.check(), -1);
    }
}
