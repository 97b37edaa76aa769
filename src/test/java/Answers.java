/** Compares answers with those due, and ends a test with exit code 1 when one was wrong. */
final class Answers {
    private int wrong;
    private int asked;

    void due(String call, long got, long want) {
        asked++;
        if (got != want) {
            wrong++;
            if (wrong <= 50) {
                System.out.println(call + " answered " + got + ", due is " + want);
            }
        }
    }

    void due(String call, boolean got, boolean want) {
        due(call, got ? 1L : 0L, want ? 1L : 0L);
    }

    boolean isWrong() {
        return wrong > 0;
    }

    void end() {
        System.out.println(asked + " answers, " + wrong + " of them wrong");
        if (wrong > 0 || asked == 0) {
            System.exit(1);
        }
    }

    /** Collects the text's letters and makes the word of them. */
    static int word(GridFills fills, String text, int score) {
        for (int i = 0; i < text.length(); i++) {
            fills.unit(text.charAt(i));
        }
        return fills.word(score);
    }

    /** Each word scores 0. */
    static void words(GridFills fills, String... texts) {
        for (String text : texts) {
            word(fills, text, 0);
        }
    }

    /** A grid by its rows: '#' is black, all others are not. */
    static GridFills grid(String... rows) {
        GridFills fills = new GridFills(rows[0].length(), rows.length);
        for (int y = 0; y < rows.length; y++) {
            for (int x = 0; x < rows[y].length(); x++) {
                if (rows[y].charAt(x) == '#') {
                    fills.black(x, y, true);
                }
            }
        }
        return fills;
    }

    /** What was found, row by row: '.' for a cell without a letter. */
    static String found(GridFills fills, int width, int height) {
        StringBuilder text = new StringBuilder();
        for (int y = 0; y < height; y++) {
            text.append(y == 0 ? "" : "/");
            for (int x = 0; x < width; x++) {
                int letter = fills.letter(x, y);
                text.append(letter == 0 ? '.' : (char) letter);
            }
        }
        return text.toString();
    }

    void dueText(String call, String got, String want) {
        due(call + " " + got + " / " + want, got.equals(want), true);
    }
}
