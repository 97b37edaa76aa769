/** Promise 6: theme. */
final class Promise06Test {
    private static final Answers DUE = new Answers();

    public static void main(String[] args) {
        aSlotHasATheme();
        anotherTheme();
        noneAnyMore();
        noneAnyMoreWithoutOne();
        noSuchSlot();
        noSuchWord();
        notItsLength();
        refusedOnesDoNothing();
        lettersDoNotMatter();
        oneWordAtTwoSlots();
        whatWasFoundStays();
        DUE.end();
    }

    /** Slots 0 and 1 have three cells, 2 to 4 two; words 0 and 1 three letters, 2 and 3 two. */
    private static GridFills fiveSlots() {
        GridFills fills = new GridFills(3, 2);
        Grids.words(fills, "abc", "def", "ad", "be");
        return fills;
    }

    private static void aSlotHasATheme() {
        DUE.sentence("A slot has a theme: true");
        GridFills fills = fiveSlots();
        DUE.due("the first slot, the first word", fills.theme(0, 0), true);
        DUE.due("theme", fills.slot(0, 3), 0);
        DUE.due("candidates", fills.slot(0, 4), 1);
        DUE.due("the last slot, the last word", fills.theme(4, 3), true);
        DUE.due("theme", fills.slot(4, 3), 3);
        DUE.due("another slot", fills.slot(1, 3), -1);
        DUE.due("another slot's candidates", fills.slot(1, 4), 2);
    }

    private static void anotherTheme() {
        DUE.sentence("A slot has a theme: true (where one is already)");
        GridFills fills = fiveSlots();
        DUE.due("theme", fills.theme(1, 0), true);
        DUE.due("the same", fills.theme(1, 0), true);
        DUE.due("another", fills.theme(1, 1), true);
        DUE.due("theme", fills.slot(1, 3), 1);
    }

    private static void noneAnyMore() {
        DUE.sentence("or (-1) none any more: true");
        GridFills fills = fiveSlots();
        fills.theme(0, 0);
        fills.theme(1, 1);
        DUE.due("none any more", fills.theme(0, -1), true);
        DUE.due("theme", fills.slot(0, 3), -1);
        DUE.due("candidates", fills.slot(0, 4), 2);
        DUE.due("the other's", fills.slot(1, 3), 1);
    }

    private static void noneAnyMoreWithoutOne() {
        DUE.sentence("or (-1) none any more: true (where none was)");
        GridFills fills = fiveSlots();
        DUE.due("none was", fills.theme(4, -1), true);
        DUE.due("again", fills.theme(4, -1), true);
        DUE.due("theme", fills.slot(4, 3), -1);
    }

    private static void noSuchSlot() {
        DUE.sentence("false .. when there is no such slot");
        GridFills fills = fiveSlots();
        for (int slot : Grids.beyond(0, 4)) {
            DUE.due("theme(" + slot + ", 2)", fills.theme(slot, 2), false);
            DUE.due("theme(" + slot + ", -1)", fills.theme(slot, -1), false);
        }
        GridFills one = new GridFills(1, 1);
        Grids.words(one, "ab");
        DUE.due("no slots", one.theme(0, 0), false);
        DUE.due("no slots", one.theme(0, -1), false);
        GridFills fewer = Grids.grid("..#..");
        Grids.words(fewer, "ab");
        fewer.black(3, 0, true);
        DUE.due("a slot that is no more", fewer.theme(1, 0), false);
    }

    private static void noSuchWord() {
        DUE.sentence("false .. when there is no such .. word");
        GridFills fills = fiveSlots();
        for (int word : new int[] {4, 5, 79, 80, 81, -2, -3, 256, Integer.MIN_VALUE, Integer.MAX_VALUE}) {
            DUE.due("theme(2, " + word + ")", fills.theme(2, word), false);
        }
        GridFills none = new GridFills(2, 1);
        DUE.due("no words", none.theme(0, 0), false);
        DUE.due("a word that came", Grids.word(none, "ab", 1), 0);
        DUE.due("now it can be", none.theme(0, 0), true);
    }

    private static void notItsLength() {
        DUE.sentence("false .. or it has not its length");
        String[] texts = {"aa", "aaa", "aaaa", "aaaaa", "aaaaaa"};
        for (int length = 2; length <= 6; length++) {
            GridFills fills = new GridFills(length, 1);
            Grids.words(fills, texts);
            for (int word = 0; word < texts.length; word++) {
                boolean fits = texts[word].length() == length;
                DUE.due("theme of " + texts[word] + " at " + length, fills.theme(0, word), fits);
            }
        }
    }

    private static void refusedOnesDoNothing() {
        DUE.sentence("false, doing nothing");
        GridFills fills = fiveSlots();
        fills.theme(0, 1);
        fills.theme(2, 2);
        String before = Grids.state(fills, 3, 2);
        fills.theme(5, 2);
        fills.theme(-1, 2);
        fills.theme(0, 4);
        fills.theme(2, -2);
        fills.theme(0, 2);
        fills.theme(2, 0);
        fills.theme(3, 1);
        DUE.due("state", Grids.state(fills, 3, 2), before);
        DUE.due("theme", fills.slot(0, 3), 1);
        DUE.due("theme", fills.slot(2, 3), 2);
        DUE.due("theme", fills.slot(3, 3), -1);
    }

    private static void lettersDoNotMatter() {
        DUE.sentence("a THEME, a word of its length (by length alone)");
        GridFills fills = fiveSlots();
        fills.given(0, 0, 'q');
        DUE.due("another letter is given", fills.theme(0, 0), true);
        DUE.due("theme", fills.slot(0, 3), 0);
        DUE.due("candidates", fills.slot(0, 4), 0);
        fills.given(0, 0, 0);
        DUE.due("not any more", fills.slot(0, 4), 1);
    }

    private static void oneWordAtTwoSlots() {
        DUE.sentence("a slot may have a THEME (another slot's too)");
        GridFills fills = fiveSlots();
        DUE.due("theme", fills.theme(0, 0), true);
        DUE.due("the same word", fills.theme(1, 0), true);
        DUE.due("theme", fills.slot(0, 3), 0);
        DUE.due("theme", fills.slot(1, 3), 0);
        DUE.due("but no filling", fills.run(20000), 1);
    }

    private static void whatWasFoundStays() {
        DUE.sentence("What was found is (still) a filling");
        GridFills fills = new GridFills(2, 1);
        Grids.words(fills, "ab", "cd");
        DUE.due("run", fills.run(1), 0);
        fills.theme(0, 1);
        DUE.due("score", fills.score(), 0);
        DUE.due("word", fills.slot(0, 5), 0);
        DUE.due("found", Grids.found(fills, 2, 1), "ab");
    }
}
