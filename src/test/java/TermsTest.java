/** "What it is" and "Terms": calls, cells, slots, fillings and the search, sentence by sentence. */
final class TermsTest {
    private static final Answers DUE = new Answers();

    public static void main(String[] args) {
        callsUpToThe512th();
        cellsAreNumbered();
        cellsAreAtMost36();
        slotsHaveTwoCellsAtLeast();
        slotsHaveNoBlackCells();
        slotsAreAsLongAsTheyCanBe();
        slotsDoNotGoRoundTheEdge();
        slotsToTheRightComeFirst();
        slotsGoByTheirFirstCells();
        wordsHaveTheSlotsLength();
        noWordIntoTwoSlots();
        eachCellHasOneLetter();
        eachCellHasTheGivenLetter();
        eachSlotHasItsTheme();
        cellsOfNoSlotHaveNoLetter();
        theScoreIsTheSum();
        fewestCandidatesComeNext();
        fewestOfManyCandidates();
        fewestByThen();
        ofAlikeOnesTheLeast();
        candidatesAreNotUsedYet();
        candidatesBehindManyWords();
        candidatesByWordsThatAreThere();
        theThemeAlone();
        theThemeIfItIsOneOfThese();
        theThemeIfItIsNotUsedYet();
        triedByFallingScores();
        ofAlikeScoresByNumbers();
        eachWordPutIsAStep();
        theLastWordIsTakenAway();
        DUE.end();
    }

    private static void callsUpToThe512th() {
        DUE.sentence("An object is used for at most 512 calls after it has been made");
        GridFills fills = new GridFills(2, 1);
        Grids.words(fills, "ab", "cd");
        for (int call = 7; call < 512; call++) {
            DUE.due("call " + call, fills.given(0, 0, call % 2 == 0 ? 'a' : 'x'), true);
        }
        DUE.due("call 512", fills.run(20000), 1);
        GridFills searched = new GridFills(2, 1);
        Grids.words(searched, "ab", "cd");
        for (int call = 7; call <= 512; call++) {
            DUE.due("call " + call, searched.best(call), 0);
        }
        GridFills painted = new GridFills(6, 6);
        for (int call = 1; call <= 512; call++) {
            DUE.due("call " + call, painted.black(3, 3, call % 2 == 1), true);
        }
    }

    private static void cellsAreNumbered() {
        DUE.sentence("CELLS (x, y), numbered x + W y");
        for (int width = 2; width <= 6; width++) {
            for (int height = 2; height <= 6; height++) {
                GridFills fills = new GridFills(width, height);
                for (int y = 0; y < height; y++) {
                    DUE.due("first cell of row " + y, fills.slot(y, 0), width * y);
                }
                for (int x = 0; x < width; x++) {
                    DUE.due("first cell of column " + x, fills.slot(height + x, 0), x);
                }
            }
        }
    }

    private static void cellsAreAtMost36() {
        DUE.sentence("at most 36");
        GridFills fills = Grids.grid("######", "######", "######", "######", "#####.", "####..");
        DUE.due("slots", fills.slots(), 2);
        dueSlot(fills, 0, 34, 2, 0);
        dueSlot(fills, 1, 29, 2, 1);
        DUE.due("cell 35", fills.letter(5, 5), 0);
        DUE.due("no cell 36", fills.letter(6, 5), -1);
    }

    private static void dueSlot(GridFills fills, int slot, int first, int length, int down) {
        DUE.due("slot " + slot + " first", fills.slot(slot, 0), first);
        DUE.due("slot " + slot + " length", fills.slot(slot, 1), length);
        DUE.due("slot " + slot + " down", fills.slot(slot, 2), down);
    }

    private static void slotsHaveTwoCellsAtLeast() {
        DUE.sentence("A SLOT is a row of cells .. at least two of them");
        DUE.due("one cell", new GridFills(1, 1).slots(), 0);
        DUE.due("single cells", Grids.grid("#.#", ".#.", "#.#").slots(), 0);
        DUE.due("two to the right", new GridFills(2, 1).slots(), 1);
        DUE.due("two down", new GridFills(1, 2).slots(), 1);
        GridFills fills = Grids.grid(".#..#.");
        DUE.due("two between single ones", fills.slots(), 1);
        dueSlot(fills, 0, 2, 2, 0);
    }

    private static void slotsHaveNoBlackCells() {
        DUE.sentence("A SLOT is a row of cells, not black");
        GridFills fills = Grids.grid("..#...");
        DUE.due("slots", fills.slots(), 2);
        dueSlot(fills, 0, 0, 2, 0);
        dueSlot(fills, 1, 3, 3, 0);
        DUE.due("all are black", Grids.grid("##", "##").slots(), 0);
    }

    private static void slotsAreAsLongAsTheyCanBe() {
        DUE.sentence("A SLOT is .. as long as it can be");
        for (int length = 2; length <= 6; length++) {
            GridFills right = new GridFills(length, 1);
            DUE.due("slots", right.slots(), 1);
            dueSlot(right, 0, 0, length, 0);
            GridFills down = new GridFills(1, length);
            DUE.due("slots", down.slots(), 1);
            dueSlot(down, 0, 0, length, 1);
        }
        GridFills fills = Grids.grid("#...#");
        DUE.due("slots", fills.slots(), 1);
        dueSlot(fills, 0, 1, 3, 0);
    }

    private static void slotsDoNotGoRoundTheEdge() {
        DUE.sentence("cells .. that follow each other to the right, or down");
        DUE.due("the end of a line and the next line's start", Grids.grid("##.", ".##").slots(), 0);
        DUE.due("a line's two ends", Grids.grid(".##.").slots(), 0);
        DUE.due("a column's two ends", Grids.grid(".", "#", "#", ".").slots(), 0);
        DUE.due("corner to corner", Grids.grid(".##", "#.#", "##.").slots(), 0);
    }

    private static void slotsToTheRightComeFirst() {
        DUE.sentence("Slots are numbered: first those to the right .. then those down");
        GridFills fills = Grids.grid(".##", ".##", "#..");
        DUE.due("slots", fills.slots(), 2);
        dueSlot(fills, 0, 7, 2, 0);
        dueSlot(fills, 1, 0, 2, 1);
    }

    private static void slotsGoByTheirFirstCells() {
        DUE.sentence("Slots are numbered .. by their first cells");
        GridFills fills = Grids.grid("..#..", ".#...", "....#");
        DUE.due("slots", fills.slots(), 8);
        dueSlot(fills, 0, 0, 2, 0);
        dueSlot(fills, 1, 3, 2, 0);
        dueSlot(fills, 2, 7, 3, 0);
        dueSlot(fills, 3, 10, 4, 0);
        dueSlot(fills, 4, 0, 3, 1);
        dueSlot(fills, 5, 3, 3, 1);
        // The slot down from cell 4 comes before that from cell 7, though its column is behind.
        dueSlot(fills, 6, 4, 2, 1);
        dueSlot(fills, 7, 7, 2, 1);
        GridFills late = Grids.grid("#.", "..", "..");
        dueSlot(late, 2, 1, 3, 1);
        dueSlot(late, 3, 2, 2, 1);
    }

    private static void wordsHaveTheSlotsLength() {
        DUE.sentence("A FILLING puts a word of its length into each slot");
        for (int length = 2; length <= 6; length++) {
            GridFills fills = new GridFills(length, 1);
            Grids.words(fills, "aa", "aaa", "aaaa", "aaaaa", "aaaaaa");
            DUE.due("run", fills.run(9), 0);
            DUE.due("word", fills.slot(0, 5), length - 2);
        }
        GridFills none = new GridFills(4, 1);
        Grids.words(none, "aaa", "aaaaa");
        DUE.due("shorter and longer ones alone", none.run(9), 1);
    }

    private static void noWordIntoTwoSlots() {
        DUE.sentence("no word into two");
        GridFills fills = new GridFills(2, 2);
        Grids.words(fills, "ab", "ba");
        DUE.due("ab/ba has each word twice", fills.run(20000), 1);
        DUE.due("best", fills.best(20000), 1);
        GridFills two = Grids.grid("..#..");
        Grids.words(two, "ab");
        DUE.due("one word for two slots", two.run(20000), 1);
        Grids.words(two, "cd");
        DUE.due("two words for two slots", two.run(20000), 0);
    }

    private static void eachCellHasOneLetter() {
        DUE.sentence("so that each cell has one letter");
        GridFills fills = new GridFills(2, 2);
        Grids.words(fills, "ab", "cd", "ac", "be");
        DUE.due("bd alone would do", fills.run(20000), 1);
        Grids.words(fills, "bd");
        DUE.due("run", fills.run(20000), 0);
        DUE.due("found", Grids.found(fills, 2, 2), "ab/cd");
        DUE.due("down", fills.slot(3, 5), 4);
    }

    private static void eachCellHasTheGivenLetter() {
        DUE.sentence("the given one where one is given");
        GridFills fills = Grids.square();
        fills.given(1, 0, 'b');
        DUE.due("run", fills.run(20000), 0);
        DUE.due("found", Grids.found(fills, 2, 2), "ab/cd");
        fills.given(1, 0, 'c');
        DUE.due("run", fills.run(20000), 0);
        DUE.due("found", Grids.found(fills, 2, 2), "ac/bd");
        fills.given(1, 0, 'd');
        DUE.due("run", fills.run(20000), 1);
    }

    private static void eachSlotHasItsTheme() {
        DUE.sentence("each slot with a theme its theme");
        GridFills fills = Grids.square();
        fills.theme(2, 0);
        DUE.due("run", fills.run(20000), 0);
        DUE.due("found", Grids.found(fills, 2, 2), "ac/bd");
        fills.theme(2, 1);
        DUE.due("run", fills.run(20000), 0);
        DUE.due("found", Grids.found(fills, 2, 2), "ab/cd");
        fills.theme(2, 3);
        DUE.due("run", fills.run(20000), 1);
    }

    private static void cellsOfNoSlotHaveNoLetter() {
        DUE.sentence("(Cells of no slot have no letter.)");
        GridFills fills = Grids.grid("..#.");
        Grids.words(fills, "ab");
        fills.given(3, 0, 'c');
        DUE.due("run", fills.run(9), 0);
        DUE.due("found", Grids.found(fills, 4, 1), "ab..");
    }

    private static void theScoreIsTheSum() {
        DUE.sentence("Its SCORE is the sum of those of its words.");
        GridFills fills = Grids.grid("..#..", "#####", "...##");
        Grids.word(fills, "ab", 1000);
        Grids.word(fills, "cd", 30);
        Grids.word(fills, "abc", 7);
        Grids.word(fills, "ef", 0);
        DUE.due("run", fills.run(9), 0);
        DUE.due("score", fills.score(), 1037);
    }

    private static void fewestCandidatesComeNext() {
        DUE.sentence("of the slots that have no word yet that with fewest CANDIDATES comes next");
        GridFills fills = Grids.grid("...#..");
        Grids.words(fills, "abc", "abd", "abe", "xy");
        DUE.due("best", fills.best(20000), 0);
        DUE.due("many", fills.many(), 3);
        // With slot 0 first there would be 3 + 3 steps.
        DUE.due("steps", fills.steps(), 1 + 3);
    }

    private static void fewestOfManyCandidates() {
        DUE.sentence("that with fewest CANDIDATES comes next (of 80 words)");
        GridFills fills = Grids.grid("..#...");
        Grids.manyWords(fills, 39, 2, 1);
        Grids.manyWords(fills, 41, 3, 0);
        DUE.due("best", fills.best(20000), 0);
        DUE.due("many", fills.many(), 39 * 41);
        DUE.due("steps", fills.steps(), 39 + 39 * 41);
        GridFills other = Grids.grid("..#...");
        Grids.manyWords(other, 41, 2, 1);
        Grids.manyWords(other, 39, 3, 0);
        DUE.due("best", other.best(20000), 0);
        DUE.due("steps", other.steps(), 39 + 39 * 41);
    }

    private static void fewestByThen() {
        DUE.sentence("the letters that its cells have by then");
        GridFills fills = Grids.grid("...", ".#.");
        Grids.words(fills, "axb", "ac", "ad", "be");
        DUE.due("slot 1 at the start", fills.slot(1, 4), 3);
        DUE.due("slot 2 at the start", fills.slot(2, 4), 3);
        DUE.due("best", fills.best(20000), 0);
        DUE.due("many", fills.many(), 2);
        // Behind axb slot 1 has two candidates and slot 2 one: with slot 1 next there would be 5.
        DUE.due("steps", fills.steps(), 1 + 1 + 2);
    }

    private static void ofAlikeOnesTheLeast() {
        DUE.sentence("of alike ones the least");
        GridFills fills = Grids.grid("..#..");
        Grids.words(fills, "ab", "cd");
        DUE.due("run", fills.run(2), 0);
        DUE.due("slot 0", fills.slot(0, 5), 0);
        DUE.due("slot 1", fills.slot(1, 5), 1);
        GridFills across = Grids.grid("..", ".#");
        Grids.words(across, "ab", "ac");
        DUE.due("run", across.run(2), 0);
        DUE.due("slot 0, to the right", across.slot(0, 5), 0);
        DUE.due("slot 1, down", across.slot(1, 5), 1);
    }

    private static void candidatesAreNotUsedYet() {
        DUE.sentence("the CANDIDATES of a slot are the words, not used yet");
        GridFills fills = Grids.grid("..#...", "######", "..####");
        Grids.words(fills, "ab", "cd", "xyz", "uvw");
        DUE.due("best", fills.best(20000), 0);
        DUE.due("many", fills.many(), 4);
        // Behind slot 0 has slot 2 one candidate and slot 1 two: with slot 1 next there would be 10.
        DUE.due("steps", fills.steps(), 2 + 2 + 4);
    }

    private static void candidatesBehindManyWords() {
        DUE.sentence("the words, not used yet (behind many others)");
        GridFills fills = Grids.grid("..#...", "######", "..####");
        Grids.manyWords(fills, 64, 4, 1);
        Grids.words(fills, "ab", "cd", "xyz", "uvw");
        DUE.due("best", fills.best(20000), 0);
        DUE.due("many", fills.many(), 4);
        DUE.due("steps", fills.steps(), 2 + 2 + 4);
    }

    private static void candidatesByWordsThatAreThere() {
        DUE.sentence("by the letters that its cells have by then (given, or of words that are there)");
        GridFills fills = Grids.grid("...", ".#.", "...");
        Grids.words(fills, "abc", "afg", "ghi", "cdi");
        fills.given(0, 0, 'a');
        fills.given(2, 0, 'c');
        // abc by the given letters; afg and cdi by its own; then ghi by those of both.
        DUE.due("run", fills.run(4), 0);
        DUE.due("steps", fills.steps(), 4);
        DUE.due("found", Grids.found(fills, 3, 3), "abc/f.d/ghi");
    }

    private static void theThemeAlone() {
        DUE.sentence("or the theme alone");
        GridFills fills = new GridFills(2, 1);
        Grids.word(fills, "ab", 9);
        Grids.word(fills, "ac", 8);
        Grids.word(fills, "ad", 7);
        fills.theme(0, 2);
        DUE.due("candidates", fills.slot(0, 4), 1);
        DUE.due("best", fills.best(9), 0);
        DUE.due("steps", fills.steps(), 1);
        DUE.due("word", fills.slot(0, 5), 2);
    }

    private static void theThemeIfItIsOneOfThese() {
        DUE.sentence("the theme alone, if it is one of these");
        GridFills fills = new GridFills(2, 1);
        Grids.words(fills, "ab", "cd");
        fills.theme(0, 1);
        fills.given(0, 0, 'a');
        DUE.due("another letter is given", fills.slot(0, 4), 0);
        DUE.due("run", fills.run(9), 1);
        DUE.due("steps", fills.steps(), 0);
        GridFills across = Grids.grid("..", ".#");
        Grids.words(across, "ab", "cd");
        across.theme(0, 0);
        across.theme(1, 1);
        DUE.due("a word that is there has another letter", across.run(9), 1);
        DUE.due("steps", across.steps(), 1);
    }

    private static void theThemeIfItIsNotUsedYet() {
        DUE.sentence("the words, not used yet .. or the theme alone, if it is one of these");
        GridFills fills = Grids.grid("..#..");
        Grids.words(fills, "ab", "cd");
        fills.theme(0, 0);
        fills.theme(1, 0);
        DUE.due("one theme at two slots", fills.run(9), 1);
        DUE.due("steps", fills.steps(), 1);
        fills.theme(0, -1);
        DUE.due("run", fills.run(9), 0);
        DUE.due("slot 0", fills.slot(0, 5), 1);
        DUE.due("slot 1", fills.slot(1, 5), 0);
    }

    private static void triedByFallingScores() {
        DUE.sentence("They are tried by falling scores");
        GridFills fills = Grids.grid("..#..", "#####", "..###");
        Grids.word(fills, "ab", 0);
        Grids.word(fills, "cd", 999);
        Grids.word(fills, "ef", 1000);
        Grids.word(fills, "gh", 1);
        DUE.due("run", fills.run(3), 0);
        DUE.due("found", Grids.found(fills, 5, 3), "ef.cd/...../gh...");
        Grids.word(fills, "ij", 500);
        DUE.due("run", fills.run(3), 0);
        DUE.due("a later word between them", Grids.found(fills, 5, 3), "ef.cd/...../ij...");
    }

    private static void ofAlikeScoresByNumbers() {
        DUE.sentence("by falling scores, of alike ones by numbers");
        GridFills fills = Grids.grid("..#..", "#####", "..#..");
        Grids.word(fills, "zz", 5);
        Grids.word(fills, "yy", 7);
        Grids.word(fills, "xx", 7);
        Grids.word(fills, "ww", 5);
        Grids.word(fills, "aa", 7);
        DUE.due("run", fills.run(4), 0);
        DUE.due("found", Grids.found(fills, 5, 3), "yy.xx/...../aa.zz");
    }

    private static void eachWordPutIsAStep() {
        DUE.sentence("Each word that is put is a STEP.");
        GridFills fills = Grids.grid("..#..", "#####", "..###");
        Grids.words(fills, "ab", "cd", "ef", "gh");
        DUE.due("run", fills.run(20000), 0);
        DUE.due("one for each slot", fills.steps(), 3);
        DUE.due("best", fills.best(20000), 0);
        DUE.due("one for each word at each slot", fills.steps(), 4 + 4 * 3 + 4 * 3 * 2);
    }

    private static void theLastWordIsTakenAway() {
        DUE.sentence("When none does, the word that was put last is taken away and the next one tried there.");
        GridFills fills = Grids.grid("..", ".#");
        Grids.word(fills, "ab", 9);
        Grids.word(fills, "cd", 5);
        Grids.word(fills, "ce", 1);
        DUE.due("run", fills.run(20000), 0);
        // No other word begins like ab, so it is taken away; cd and ce are put then.
        DUE.due("steps", fills.steps(), 3);
        DUE.due("slot 0", fills.slot(0, 5), 1);
        DUE.due("slot 1", fills.slot(1, 5), 2);
        GridFills deep = Grids.grid("...", "..#");
        Grids.word(deep, "abc", 9);
        Grids.word(deep, "dea", 8);
        Grids.word(deep, "af", 7);
        Grids.word(deep, "bg", 6);
        Grids.word(deep, "dh", 5);
        Grids.word(deep, "ei", 4);
        Grids.word(deep, "hi", 3);
        // Behind abc and af no word to the right begins with f: both are taken away, one by one.
        DUE.due("run", deep.run(20000), 0);
        DUE.due("found", Grids.found(deep, 3, 2), "dea/hi.");
        DUE.due("steps", deep.steps(), 6);
        DUE.due("score", deep.score(), 20);
    }
}
