/** Promise 3: unit. */
final class Promise03Test {
    private static final Answers DUE = new Answers();

    public static void main(String[] args) {
        lettersComeBehindEachOther();
        eachLetterIsTaken();
        whatIsNoLetter();
        whatIsNoLetterDoesNothing();
        thereAreSix();
        theSeventhDoesNothing();
        roomBehindAWord();
        DUE.end();
    }

    private static String texts(GridFills fills, int length) {
        DUE.due("run", fills.run(1), 0);
        return Grids.found(fills, length, 1);
    }

    private static void lettersComeBehindEachOther() {
        DUE.sentence("A letter comes behind those collected: true");
        GridFills fills = new GridFills(6, 1);
        for (int u : new int[] {'f', 'a', 'z', 'b', 'a', 'y'}) {
            DUE.due("unit(" + u + ")", fills.unit(u), true);
        }
        DUE.due("word", fills.word(1), 0);
        DUE.due("in their order", texts(fills, 6), "fazbay");
    }

    private static void eachLetterIsTaken() {
        DUE.sentence("letters a to z (bytes 97 to 122)");
        for (int u = 97; u <= 122; u++) {
            GridFills fills = new GridFills(2, 1);
            DUE.due("unit(" + u + ")", fills.unit(u), true);
            DUE.due("unit(" + u + ")", fills.unit(u), true);
            DUE.due("word", fills.word(0), 0);
            DUE.due("run", fills.run(1), 0);
            DUE.due("letter", fills.letter(1, 0), u);
        }
    }

    private static void whatIsNoLetter() {
        DUE.sentence("false .. when it is none");
        GridFills fills = new GridFills(2, 1);
        for (int u : Grids.beyond(97, 122)) {
            DUE.due("unit(" + u + ")", fills.unit(u), false);
        }
        for (int u : new int[] {-1, 0, 1, 25, 26, 32, 65, 90, 127, 128, 255, -97, 65536 + 97}) {
            DUE.due("unit(" + u + ")", fills.unit(u), false);
        }
    }

    private static void whatIsNoLetterDoesNothing() {
        DUE.sentence("false, doing nothing, when it is none");
        GridFills fills = new GridFills(3, 1);
        DUE.due("not the first", fills.unit(96), false);
        for (int u : new int[] {'a', 'b', 'c'}) {
            DUE.due("unit(" + u + ")", fills.unit(u), true);
            DUE.due("unit(123)", fills.unit(123), false);
            DUE.due("unit(0)", fills.unit(0), false);
        }
        DUE.due("word", fills.word(1), 0);
        DUE.due("a, b, c alone", texts(fills, 3), "abc");
    }

    private static void thereAreSix() {
        DUE.sentence("false .. when .. there are 6");
        GridFills fills = new GridFills(6, 1);
        for (int count = 0; count < 6; count++) {
            DUE.due("letter " + count, fills.unit('a'), true);
        }
        for (int u : new int[] {'a', 'b', 'z', 96, 0}) {
            DUE.due("a seventh", fills.unit(u), false);
        }
    }

    private static void theSeventhDoesNothing() {
        DUE.sentence("false, doing nothing, when .. there are 6");
        GridFills fills = new GridFills(6, 1);
        Grids.collect(fills, "abcdefgh");
        DUE.due("word", fills.word(1), 0);
        DUE.due("the first six", texts(fills, 6), "abcdef");
        DUE.due("nothing came behind", fills.word(1), -1);
    }

    private static void roomBehindAWord() {
        DUE.sentence("there are 6 (none behind a word)");
        GridFills fills = new GridFills(6, 1);
        Grids.collect(fills, "abcdef");
        DUE.due("word", fills.word(1), 0);
        for (int count = 0; count < 6; count++) {
            DUE.due("letter " + count, fills.unit('b'), true);
        }
        DUE.due("a seventh", fills.unit('b'), false);
        DUE.due("a refused word", fills.word(1001), -1);
        DUE.due("room again", fills.unit('b'), true);
    }
}
