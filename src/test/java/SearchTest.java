/** Promises 9 to 14 and 8 (5): searches, their steps, and what was found. */
final class SearchTest {
    private static final Answers ANSWERS = new Answers();

    public static void main(String[] args) {
        stepLimits();
        wrongLimitsDoNothing();
        noSlots();
        noWords();
        fewestCandidatesComeNext();
        ofAlikeOnesTheLeast();
        triedByScores();
        noWordTwice();
        bestOfAll();
        bestOfAlikeOnesIsTheFirst();
        bestThatRunsOut();
        searchDropsWhatWasFound();
        letters();
        manySlots();
        manyWords();
        ANSWERS.end();
    }

    /** Two fillings: ab/cd, and ac/bd. */
    private static GridFills square() {
        GridFills fills = new GridFills(2, 2);
        Answers.word(fills, "ab", 1);
        Answers.word(fills, "ac", 2);
        Answers.word(fills, "bd", 3);
        Answers.word(fills, "cd", 4);
        return fills;
    }

    private static void stepLimits() {
        GridFills fills = square();
        ANSWERS.due("run", fills.run(20000), 0);
        int needed = fills.steps();
        ANSWERS.due("a step for each slot at least", needed >= 4, true);
        ANSWERS.due("many", fills.many(), 1);
        ANSWERS.due("just enough", fills.run(needed), 0);
        ANSWERS.due("steps", fills.steps(), needed);
        for (int limit = 0; limit < needed; limit++) {
            ANSWERS.due("run(" + limit + ")", fills.run(limit), 2);
            ANSWERS.due("steps", fills.steps(), limit);
            ANSWERS.due("many", fills.many(), 0);
            ANSWERS.due("score", fills.score(), -1);
        }
        ANSWERS.due("best", fills.best(20000), 0);
        int all = fills.steps();
        ANSWERS.due("just enough", fills.best(all), 0);
        ANSWERS.due("one less", fills.best(all - 1), 2);
        ANSWERS.due("steps", fills.steps(), all - 1);
        fills.given(0, 0, 'x');
        ANSWERS.due("none, without a step", fills.run(0), 1);
        ANSWERS.due("none, without a step", fills.best(0), 1);
    }

    private static void wrongLimitsDoNothing() {
        GridFills fills = square();
        fills.best(20000);
        int steps = fills.steps();
        for (int limit : new int[] {-1, 20001, Integer.MIN_VALUE, Integer.MAX_VALUE}) {
            ANSWERS.due("run(" + limit + ")", fills.run(limit), -1);
            ANSWERS.due("best(" + limit + ")", fills.best(limit), -1);
            ANSWERS.due("steps stay", fills.steps(), steps);
            ANSWERS.due("many stays", fills.many(), 2);
            ANSWERS.due("score stays", fills.score(), 10);
        }
    }

    private static void noSlots() {
        GridFills fills = Answers.grid(".#", "#.");
        ANSWERS.due("score", fills.score(), -1);
        ANSWERS.due("run", fills.run(0), 0);
        ANSWERS.due("many", fills.many(), 1);
        ANSWERS.due("score", fills.score(), 0);
        ANSWERS.due("steps", fills.steps(), 0);
        ANSWERS.due("check", fills.check(), 0);
        ANSWERS.due("letter", fills.letter(0, 0), 0);
        ANSWERS.due("best", fills.best(0), 0);
        ANSWERS.due("many", fills.many(), 1);
        ANSWERS.due("score", fills.score(), 0);
    }

    private static void noWords() {
        GridFills fills = new GridFills(6, 6);
        ANSWERS.due("run", fills.run(0), 1);
        ANSWERS.due("best", fills.best(0), 1);
        ANSWERS.due("steps", fills.steps(), 0);
        ANSWERS.due("many", fills.many(), 0);
        ANSWERS.due("score", fills.score(), -1);
    }

    private static void fewestCandidatesComeNext() {
        // Slot 1 (two cells) has one candidate, slot 0 three: put first, it is the first step.
        GridFills fills = Answers.grid("...#..");
        Answers.words(fills, "abc", "abd", "abe", "xy");
        ANSWERS.due("run", fills.run(2), 0);
        ANSWERS.due("all", fills.best(20000), 0);
        ANSWERS.due("steps", fills.steps(), 1 + 3);
        // With slot 0 first there would be 3 + 3 steps.
        ANSWERS.due("many", fills.many(), 3);
    }

    private static void ofAlikeOnesTheLeast() {
        // Both have two candidates; slot 0 takes the first of them.
        GridFills order = Answers.grid("..#..");
        Answers.words(order, "ab", "cd");
        ANSWERS.due("run", order.run(2), 0);
        ANSWERS.due("slot 0", order.slot(0, 5), 0);
        ANSWERS.due("slot 1", order.slot(1, 5), 1);
    }

    private static void triedByScores() {
        GridFills fills = new GridFills(2, 1);
        Answers.word(fills, "ab", 5);
        Answers.word(fills, "cd", 7);
        Answers.word(fills, "ef", 7);
        Answers.word(fills, "gh", 6);
        ANSWERS.due("run", fills.run(1), 0);
        ANSWERS.due("of the greatest ones the first", fills.slot(0, 5), 1);
        ANSWERS.due("score", fills.score(), 7);
        fills.given(1, 0, 'h');
        ANSWERS.due("run", fills.run(1), 0);
        ANSWERS.due("word", fills.slot(0, 5), 3);
        Answers.word(fills, "xh", 6);
        Answers.word(fills, "yh", 8);
        ANSWERS.due("run", fills.run(1), 0);
        ANSWERS.due("a later word with a greater score", fills.slot(0, 5), 5);
        // Three slots side by side, of words that all fit: each takes the next by score.
        GridFills three = Answers.grid("..#..", "#####", "..###");
        Answers.word(three, "aa", 1);
        Answers.word(three, "bb", 3);
        Answers.word(three, "cc", 2);
        Answers.word(three, "dd", 3);
        ANSWERS.due("run", three.run(3), 0);
        ANSWERS.dueText("found", Answers.found(three, 5, 3), "bb.dd/...../cc...");
        ANSWERS.due("score", three.score(), 8);
        ANSWERS.due("best", three.best(20000), 0);
        ANSWERS.due("many", three.many(), 24);
        ANSWERS.due("steps", three.steps(), 4 + 12 + 24);
    }

    private static void noWordTwice() {
        GridFills fills = new GridFills(2, 2);
        Answers.words(fills, "ab", "ba");
        ANSWERS.due("ab/ba would use both twice", fills.run(20000), 1);
        ANSWERS.due("best", fills.best(20000), 1);
        GridFills two = Answers.grid("..#..");
        Answers.words(two, "ab");
        ANSWERS.due("one word for two slots", two.run(20000), 1);
        ANSWERS.due("steps", two.steps(), 1);
    }

    private static void bestOfAll() {
        GridFills fills = Answers.grid("..", ".#");
        // The first one is not the best: behind ax (9) comes ay (0) alone.
        Answers.word(fills, "ax", 9);
        Answers.word(fills, "ay", 0);
        Answers.word(fills, "bx", 8);
        Answers.word(fills, "by", 8);
        Answers.word(fills, "bz", 7);
        ANSWERS.due("run", fills.run(20000), 0);
        ANSWERS.due("score", fills.score(), 9);
        ANSWERS.dueText("found", Answers.found(fills, 2, 2), "ax/y.");
        ANSWERS.due("best", fills.best(20000), 0);
        ANSWERS.due("score", fills.score(), 16);
        ANSWERS.due("many", fills.many(), 8);
        ANSWERS.due("steps", fills.steps(), 5 + 8);
        ANSWERS.dueText("found", Answers.found(fills, 2, 2), "bx/y.");
        ANSWERS.due("slot 0", fills.slot(0, 5), 2);
        ANSWERS.due("slot 1", fills.slot(1, 5), 3);
        ANSWERS.due("check", fills.check(), 0);
        ANSWERS.due("run", fills.run(20000), 0);
        ANSWERS.due("many of run", fills.many(), 1);
    }

    private static void bestOfAlikeOnesIsTheFirst() {
        GridFills fills = square();
        ANSWERS.due("best", fills.best(20000), 0);
        ANSWERS.due("many", fills.many(), 2);
        ANSWERS.due("score", fills.score(), 10);
        // cd does not begin a filling, bd does not, ac does: it comes before ab.
        ANSWERS.dueText("found", Answers.found(fills, 2, 2), "ac/bd");
    }

    private static void bestThatRunsOut() {
        GridFills fills = Answers.grid("..", ".#");
        Answers.word(fills, "ax", 9);
        Answers.word(fills, "ay", 0);
        Answers.word(fills, "bx", 8);
        Answers.word(fills, "by", 8);
        ANSWERS.due("best(1)", fills.best(1), 2);
        ANSWERS.due("none so far", fills.score(), -1);
        ANSWERS.due("many", fills.many(), 0);
        ANSWERS.due("check", fills.check(), -1);
        ANSWERS.due("best(2)", fills.best(2), 2);
        ANSWERS.due("one so far", fills.score(), 9);
        ANSWERS.due("many", fills.many(), 1);
        ANSWERS.due("slot 0", fills.slot(0, 5), 0);
        ANSWERS.due("best(4)", fills.best(4), 2);
        ANSWERS.due("the greatest so far", fills.score(), 16);
        ANSWERS.due("many", fills.many(), 2);
        ANSWERS.due("best(7)", fills.best(7), 2);
        ANSWERS.due("the greatest so far", fills.score(), 16);
        ANSWERS.due("slot 0", fills.slot(0, 5), 2);
        ANSWERS.due("steps", fills.steps(), 7);
    }

    private static void searchDropsWhatWasFound() {
        GridFills fills = square();
        ANSWERS.due("run", fills.run(20000), 0);
        ANSWERS.due("runs out", fills.run(1), 2);
        ANSWERS.due("score", fills.score(), -1);
        ANSWERS.due("word", fills.slot(0, 5), -1);
        ANSWERS.due("letter", fills.letter(0, 0), 0);
        ANSWERS.due("check", fills.check(), -1);
        ANSWERS.due("best", fills.best(20000), 0);
        fills.given(0, 0, 'q');
        ANSWERS.due("best", fills.best(20000), 1);
        ANSWERS.due("score", fills.score(), -1);
        ANSWERS.due("many", fills.many(), 0);
        ANSWERS.due("steps", fills.steps(), 0);
        fills.given(0, 0, 0);
        ANSWERS.due("run", fills.run(20000), 0);
        ANSWERS.due("score", fills.score(), 10);
    }

    private static void letters() {
        GridFills fills = Answers.grid("..#", "##.", "...");
        Answers.words(fills, "ab", "cd", "xyd");
        fills.given(2, 1, 'c');
        ANSWERS.due("nothing is found", fills.letter(0, 0), 0);
        ANSWERS.due("run", fills.run(20000), 0);
        ANSWERS.dueText("found", Answers.found(fills, 3, 3), "ab./..c/xyd");
        int[][] outside = {{-1, 0}, {0, -1}, {3, 0}, {0, 3}, {Integer.MIN_VALUE, 0}, {0, Integer.MAX_VALUE}};
        for (int[] cell : outside) {
            ANSWERS.due("no such cell", fills.letter(cell[0], cell[1]), -1);
        }
        fills.given(0, 0, 'z');
        ANSWERS.due("given since", fills.letter(0, 0), 'a');
    }

    private static void manySlots() {
        // As many slots as there can be, each with a theme of its own: one step each.
        GridFills fills = Answers.grid(
                "..#...",
                "..#...",
                "##..##",
                "...#..",
                "..#...",
                "..#...");
        String rows = "abcdefghijklmnopqrstuvwxyzjihgfedcba";
        for (int slot = 0; slot < fills.slots(); slot++) {
            StringBuilder text = new StringBuilder();
            for (int place = 0; place < fills.slot(slot, 1); place++) {
                text.append(rows.charAt(fills.slot(slot, 0) + place * (fills.slot(slot, 2) == 1 ? 6 : 1)));
            }
            ANSWERS.due("word", Answers.word(fills, text.toString(), 1000), slot);
        }
        ANSWERS.due("run", fills.run(20000), 0);
        ANSWERS.due("steps", fills.steps() >= 22, true);
        ANSWERS.due("score", fills.score(), 22000);
        ANSWERS.due("check", fills.check(), 0);
        for (int slot = 0; slot < 22; slot++) {
            ANSWERS.due("theme", fills.theme(slot, fills.slot(slot, 5)), true);
        }
        ANSWERS.due("run", fills.run(22), 0);
        ANSWERS.due("steps", fills.steps(), 22);
        ANSWERS.due("run", fills.run(21), 2);
    }

    private static void manyWords() {
        // Eight first letters, ten words each, and two slots that share their first cell.
        GridFills fills = Answers.grid("..", ".#");
        for (int number = 0; number < 80; number++) {
            String text = "" + (char) ('a' + number / 10) + (char) ('a' + number % 10);
            ANSWERS.due("word", Answers.word(fills, text, 100 - number), number);
        }
        ANSWERS.due("best", fills.best(20000), 0);
        ANSWERS.due("many", fills.many(), 8 * 10 * 9);
        ANSWERS.due("steps", fills.steps(), 80 + 8 * 10 * 9);
        ANSWERS.due("score", fills.score(), 100 + 99);
        for (int first = 0; first < 8; first++) {
            fills.given(0, 0, 'a' + first);
            ANSWERS.due("candidates", fills.slot(1, 4), 10);
            ANSWERS.due("best", fills.best(20000), 0);
            ANSWERS.due("many", fills.many(), 10 * 9);
            ANSWERS.due("steps", fills.steps(), 10 + 10 * 9);
            ANSWERS.due("slot 0", fills.slot(0, 5), 10 * first);
            ANSWERS.due("slot 1", fills.slot(1, 5), 10 * first + 1);
            fills.given(1, 0, 'j');
            ANSWERS.due("run", fills.run(2), 0);
            ANSWERS.due("slot 0", fills.slot(0, 5), 10 * first + 9);
            ANSWERS.due("slot 1", fills.slot(1, 5), 10 * first);
            fills.given(1, 0, 0);
        }
    }
}
