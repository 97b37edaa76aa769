/** What several tests need: grids by their rows, words by their texts, and wrong arguments. */
final class Grids {
    private static final int LOWEST = Integer.MIN_VALUE;
    private static final int HIGHEST = Integer.MAX_VALUE;

    private Grids() {
    }

    /** A grid by its rows: '#' is black, all others are not. */
    static GridFills grid(String... rows) {
        GridFills fills = new GridFills(rows[0].length(), rows.length);
        for (int y = 0; y < rows.length; y++) {
            for (int x = 0; x < rows[y].length(); x++) {
                if (rows[y].charAt(x) == '#') {
                    fills.black(x, y, true);
                }
            }
        }
        return fills;
    }

    /** Collects the text's letters and makes the word of them. */
    static int word(GridFills fills, String text, int score) {
        collect(fills, text);
        return fills.word(score);
    }

    static void collect(GridFills fills, String text) {
        for (int i = 0; i < text.length(); i++) {
            fills.unit(text.charAt(i));
        }
    }

    /** Each word scores 0. */
    static void words(GridFills fills, String... texts) {
        for (String text : texts) {
            word(fills, text, 0);
        }
    }

    /** Words "aa..", "ab..", .., "za..", of this length and score each. */
    static void manyWords(GridFills fills, int count, int length, int score) {
        for (int number = 0; number < count; number++) {
            String text = "" + (char) ('a' + number / 26) + (char) ('a' + number % 26) + "xxxx";
            word(fills, text.substring(0, length), score);
        }
    }

    /** Two fillings, ab/cd and ac/bd: slots 0 and 1 go to the right, 2 and 3 down. */
    static GridFills square() {
        GridFills fills = new GridFills(2, 2);
        word(fills, "ab", 1);
        word(fills, "ac", 2);
        word(fills, "bd", 3);
        word(fills, "cd", 4);
        return fills;
    }

    /** As many slots as a grid can have. */
    static GridFills mostSlots() {
        return grid(
                "..#...",
                "..#...",
                "##..##",
                "...#..",
                "..#...",
                "..#...");
    }

    /** The same with a word for each slot, number for number, such that they all fit there. */
    static GridFills mostSlotsWithWords(int score) {
        GridFills fills = mostSlots();
        String cells = "abcdefghijklmnopqrstuvwxyzjihgfedcba";
        for (int slot = 0; slot < 22; slot++) {
            int first = fills.slot(slot, 0);
            int length = fills.slot(slot, 1);
            int stride = fills.slot(slot, 2) == 1 ? 6 : 1;
            for (int place = 0; place < length; place++) {
                fills.unit(cells.charAt(first + place * stride));
            }
            fills.word(score);
        }
        return fills;
    }

    /** What was found, row by row: '.' for a cell without a letter. */
    static String found(GridFills fills, int width, int height) {
        StringBuilder text = new StringBuilder();
        for (int y = 0; y < height; y++) {
            text.append(y == 0 ? "" : "/");
            for (int x = 0; x < width; x++) {
                int letter = fills.letter(x, y);
                text.append(letter == 0 ? '.' : (char) letter);
            }
        }
        return text.toString();
    }

    /** All that can be asked of an object without changing it. */
    static String state(GridFills fills, int width, int height) {
        StringBuilder text = new StringBuilder(found(fills, width, height));
        text.append(" steps ").append(fills.steps()).append(" many ").append(fills.many());
        text.append(" score ").append(fills.score()).append(" check ").append(fills.check());
        text.append(" parts ").append(fills.parts()).append(" slots ").append(fills.slots());
        for (int slot = 0; slot < fills.slots(); slot++) {
            text.append(" (");
            for (int what = 0; what <= 5; what++) {
                text.append(what == 0 ? "" : " ").append(fills.slot(slot, what));
            }
            text.append(')');
        }
        return text.toString();
    }

    /**
     * Places without a cell: beside the grid, far from it, and such that x + W y (with Java's
     * wrap-around) is the number of a cell all the same.
     */
    static int[][] noCells(int width, int height) {
        return new int[][] {
            {-1, 0}, {0, -1}, {width, 0}, {0, height}, {width - 1, height}, {width, height - 1},
            {-1, height - 1}, {width - 1, -1}, {-1, 1}, {width, -1}, {-width, 1}, {2 * width, -2},
            {LOWEST, 0}, {0, LOWEST}, {HIGHEST, 0}, {0, HIGHEST}, {LOWEST, LOWEST}, {HIGHEST, HIGHEST},
            {0, 1 << 30}, {1, 1 << 31}, {width * 2, HIGHEST - 1},
        };
    }

    /** Numbers below the least one and above the most. */
    static int[] beyond(int least, int most) {
        return new int[] {least - 1, most + 1, least - 2, most + 2, least - 256, most + 256,
            LOWEST, LOWEST + 1, HIGHEST - 1, HIGHEST};
    }
}
