/** Promises 1, 2, 7, 8 (0 to 2), 16 and 17: cells, slots, turned patterns and parts. */
final class GridTest {
    private static final Answers ANSWERS = new Answers();

    public static void main(String[] args) {
        newObject();
        sidesAreHeld();
        black();
        blackDropsWhatWas();
        blackThatChangesNothing();
        slotsAreNumbered();
        mostSlots();
        alike();
        parts();
        ANSWERS.end();
    }

    private static void newObject() {
        GridFills fills = new GridFills(4, 3);
        ANSWERS.due("slots", fills.slots(), 7);
        ANSWERS.due("steps", fills.steps(), 0);
        ANSWERS.due("many", fills.many(), 0);
        ANSWERS.due("score", fills.score(), -1);
        ANSWERS.due("check", fills.check(), -1);
        ANSWERS.due("parts", fills.parts(), 1);
        ANSWERS.due("word of nothing", fills.word(0), -1);
        for (int slot = 0; slot < 7; slot++) {
            ANSWERS.due("theme", fills.slot(slot, 3), -1);
            ANSWERS.due("candidates", fills.slot(slot, 4), 0);
            ANSWERS.due("word", fills.slot(slot, 5), -1);
        }
        for (int kind = 0; kind < 3; kind++) {
            ANSWERS.due("alike " + kind, fills.alike(kind), true);
        }
        for (int cell = 0; cell < 12; cell++) {
            ANSWERS.due("letter", fills.letter(cell % 4, cell / 4), 0);
            ANSWERS.due("not black", fills.black(cell % 4, cell / 4, false), false);
        }
    }

    private static void sidesAreHeld() {
        int[] sides = {Integer.MIN_VALUE, -1, 0, 1, 2, 5, 6, 7, Integer.MAX_VALUE};
        int[] held = {1, 1, 1, 1, 2, 5, 6, 6, 6};
        for (int w = 0; w < sides.length; w++) {
            for (int h = 0; h < sides.length; h++) {
                GridFills fills = new GridFills(sides[w], sides[h]);
                String made = "new (" + sides[w] + ", " + sides[h] + ") ";
                ANSWERS.due(made + "corner", fills.letter(held[w] - 1, held[h] - 1), 0);
                ANSWERS.due(made + "right of it", fills.letter(held[w], held[h] - 1), -1);
                ANSWERS.due(made + "below it", fills.letter(held[w] - 1, held[h]), -1);
                int right = held[w] > 1 ? held[h] : 0;
                int down = held[h] > 1 ? held[w] : 0;
                ANSWERS.due(made + "slots", fills.slots(), right + down);
            }
        }
    }

    private static void black() {
        GridFills fills = new GridFills(3, 2);
        ANSWERS.due("black", fills.black(2, 1, true), true);
        ANSWERS.due("black again", fills.black(2, 1, true), false);
        ANSWERS.due("not black", fills.black(2, 1, false), true);
        ANSWERS.due("not black again", fills.black(2, 1, false), false);
        int[][] outside = {{-1, 0}, {0, -1}, {3, 0}, {0, 2}, {2, 2}, {3, 1},
            {Integer.MIN_VALUE, Integer.MIN_VALUE}, {Integer.MAX_VALUE, Integer.MAX_VALUE}};
        for (int[] cell : outside) {
            ANSWERS.due("black outside", fills.black(cell[0], cell[1], true), false);
            ANSWERS.due("not black outside", fills.black(cell[0], cell[1], false), false);
        }
        ANSWERS.due("slots are whole again", fills.slots(), 5);
    }

    private static GridFills filledPair() {
        GridFills fills = new GridFills(3, 1);
        Answers.words(fills, "abc", "ab", "bc");
        fills.given(0, 0, 'a');
        fills.theme(0, 0);
        ANSWERS.due("run", fills.run(10), 0);
        ANSWERS.due("score", fills.score(), 0);
        return fills;
    }

    private static void blackDropsWhatWas() {
        GridFills fills = filledPair();
        fills.unit('x');
        ANSWERS.due("black", fills.black(0, 0, true), true);
        ANSWERS.due("theme is gone", fills.slot(0, 3), -1);
        ANSWERS.due("found is gone", fills.score(), -1);
        ANSWERS.due("found is gone", fills.slot(0, 5), -1);
        ANSWERS.due("found is gone", fills.letter(1, 0), 0);
        ANSWERS.due("found is gone", fills.check(), -1);
        ANSWERS.due("steps stay", fills.steps(), 1);
        ANSWERS.due("many stays", fills.many(), 1);
        fills.unit('y');
        ANSWERS.due("what is collected stays", fills.word(1), 3);
        ANSWERS.due("given b", fills.given(1, 0, 'b'), true);
        ANSWERS.due("by the given one", fills.slot(0, 4), 1);
        ANSWERS.due("run", fills.run(10), 0);
        ANSWERS.due("not black", fills.black(0, 0, false), true);
        ANSWERS.due("found is gone", fills.score(), -1);
        Answers.words(fills, "xyz");
        ANSWERS.due("given letters are gone", fills.slot(0, 4), 2);
    }

    private static void blackThatChangesNothing() {
        GridFills fills = filledPair();
        ANSWERS.due("is so already", fills.black(1, 0, false), false);
        ANSWERS.due("no such cell", fills.black(3, 0, true), false);
        ANSWERS.due("theme stays", fills.slot(0, 3), 0);
        ANSWERS.due("found stays", fills.score(), 0);
        ANSWERS.due("found stays", fills.letter(2, 0), 'c');
        fills.theme(0, -1);
        Answers.words(fills, "xyz");
        ANSWERS.due("given letter stays", fills.slot(0, 4), 1);
    }

    private static void dueSlot(GridFills fills, int slot, int first, int length, int down) {
        ANSWERS.due("slot " + slot + " first", fills.slot(slot, 0), first);
        ANSWERS.due("slot " + slot + " length", fills.slot(slot, 1), length);
        ANSWERS.due("slot " + slot + " down", fills.slot(slot, 2), down);
    }

    private static void slotsAreNumbered() {
        GridFills fills = Answers.grid(
                "..#..",
                ".#...",
                "....#");
        ANSWERS.due("slots", fills.slots(), 8);
        dueSlot(fills, 0, 0, 2, 0);
        dueSlot(fills, 1, 3, 2, 0);
        dueSlot(fills, 2, 7, 3, 0);
        dueSlot(fills, 3, 10, 4, 0);
        dueSlot(fills, 4, 0, 3, 1);
        dueSlot(fills, 5, 3, 3, 1);
        // The slot down from cell 4 comes before that from cell 7, though its column is behind.
        dueSlot(fills, 6, 4, 2, 1);
        dueSlot(fills, 7, 7, 2, 1);
        ANSWERS.due("black", fills.black(2, 0, false), true);
        ANSWERS.due("slots", fills.slots(), 7);
        dueSlot(fills, 0, 0, 5, 0);
        dueSlot(fills, 4, 2, 3, 1);
        GridFills late = Answers.grid(
                "#.",
                "..",
                "..");
        dueSlot(late, 2, 1, 3, 1);
        dueSlot(late, 3, 2, 2, 1);
        for (int what : new int[] {-1, 6, 7, Integer.MIN_VALUE, Integer.MAX_VALUE}) {
            ANSWERS.due("slot(0, " + what + ")", late.slot(0, what), -1);
        }
        for (int slot : new int[] {-1, 4, 24, 80, Integer.MIN_VALUE, Integer.MAX_VALUE}) {
            for (int what = -1; what <= 6; what++) {
                ANSWERS.due("slot(" + slot + ", " + what + ")", late.slot(slot, what), -1);
            }
        }
    }

    private static void mostSlots() {
        ANSWERS.due("6 x 6", new GridFills(6, 6).slots(), 12);
        GridFills fills = Answers.grid(
                "..#...",
                "..#...",
                "##.###",
                "..#...",
                "..#...",
                "..#...");
        ANSWERS.due("slots", fills.slots(), 20);
        // No grid of this size has more.
        GridFills most = Answers.grid(
                "..#...",
                "..#...",
                "##..##",
                "...#..",
                "..#...",
                "..#...");
        ANSWERS.due("slots", most.slots(), 22);
        dueSlot(most, 4, 14, 2, 0);
        dueSlot(most, 21, 27, 2, 1);
        GridFills none = Answers.grid(
                "#.#",
                ".#.",
                "#.#");
        ANSWERS.due("single cells are no slots", none.slots(), 0);
    }

    private static void dueAlike(GridFills fills, boolean half, boolean sides, boolean ends, boolean corner) {
        ANSWERS.due("alike(0)", fills.alike(0), half);
        ANSWERS.due("alike(1)", fills.alike(1), sides);
        ANSWERS.due("alike(2)", fills.alike(2), ends);
        ANSWERS.due("alike(3)", fills.alike(3), corner);
        for (int kind : new int[] {-1, 4, 5, Integer.MIN_VALUE, Integer.MAX_VALUE}) {
            ANSWERS.due("alike(" + kind + ")", fills.alike(kind), false);
        }
    }

    private static void alike() {
        dueAlike(new GridFills(3, 3), true, true, true, true);
        dueAlike(new GridFills(3, 2), true, true, true, false);
        dueAlike(new GridFills(2, 3), true, true, true, false);
        dueAlike(Answers.grid("#..", "...", "..#"), true, false, false, true);
        dueAlike(Answers.grid("..#", "...", "#.."), true, false, false, true);
        dueAlike(Answers.grid("#.#", "...", "..."), false, true, false, false);
        dueAlike(Answers.grid("#..", "...", "#.."), false, false, true, false);
        dueAlike(Answers.grid("#..", "...", "..."), false, false, false, true);
        dueAlike(Answers.grid(".#.", "#..", "..."), false, false, false, true);
        // The other corner's line, and a quarter turn, are not what kind 3 asks for.
        dueAlike(Answers.grid("..#", "...", "..."), false, false, false, false);
        dueAlike(Answers.grid(".#..", "...#", "#...", "..#."), true, false, false, false);
        dueAlike(Answers.grid("#...", "...#"), true, false, false, false);
        dueAlike(Answers.grid("#..#", "...."), false, true, false, false);
        dueAlike(Answers.grid(".#..", ".#.."), false, false, true, false);
    }

    private static void parts() {
        ANSWERS.due("parts", new GridFills(6, 6).parts(), 1);
        ANSWERS.due("parts", Answers.grid("#").parts(), 0);
        ANSWERS.due("parts", Answers.grid("##", "##").parts(), 0);
        // Cells that touch at corners alone, and the ends of lines, are not side by side.
        ANSWERS.due("parts", Answers.grid(".#", "#.").parts(), 2);
        ANSWERS.due("parts", Answers.grid("..#", "#..").parts(), 1);
        ANSWERS.due("parts", Answers.grid("##.", ".##").parts(), 2);
        ANSWERS.due("parts", Answers.grid(".#.#.#", "#.#.#.", ".#.#.#", "#.#.#.", ".#.#.#", "#.#.#.").parts(), 18);
        ANSWERS.due("parts", Answers.grid(
                "......",
                ".####.",
                ".#..#.",
                ".#.##.",
                ".####.",
                "......").parts(), 2);
        ANSWERS.due("parts", Answers.grid(
                ".#...#",
                ".#.#.#",
                ".#.#.#",
                ".#.#.#",
                "...#..",
                "######").parts(), 1);
        ANSWERS.due("parts", Answers.grid(
                ".#.",
                ".#.",
                "...").parts(), 1);
    }
}
