import java.util.ArrayList;
import java.util.Arrays;
import java.util.List;
import java.util.Random;

/**
 * Long runs of calls, drawn from fixed seeds, answered by the program and by a second one that
 * follows the document's words as slowly and plainly as they stand (all promises).
 */
final class ModelTest {
    private static final Answers ANSWERS = new Answers();
    private static final int RUNS = 4000;
    private static final int CALLS = 512;
    // A search is asked of each slot at once.
    private static final int MOST_CALLS_AT_ONCE = 30;

    // How often each search ended how, so that the runs are known to come to all of it.
    private static final int[] ENDS = new int[8];
    private static int faults;
    private static int wentBack;
    private static int manyWords;

    public static void main(String[] args) {
        for (int seed = 0; seed < RUNS && !ANSWERS.isWrong(); seed++) {
            oneRun(seed);
        }
        for (int end = 0; end < 3; end++) {
            ANSWERS.due("run ended often enough with " + end, ENDS[end] > 300, true);
            ANSWERS.due("best ended often enough with " + end, ENDS[4 + end] > 300, true);
        }
        ANSWERS.due("check found faults often enough", faults > 200, true);
        ANSWERS.due("fillings of many words often enough", manyWords > 300, true);
        ANSWERS.due("searches went back often enough", wentBack > 100, true);
        ANSWERS.end();
    }

    private static void oneRun(int seed) {
        Random random = new Random(seed);
        int before = ANSWERS.asked();
        // Each third run has a small grid and many letters, so that most of 80 words may be used.
        boolean isSmall = seed % 3 == 0;
        int width = random.nextInt(isSmall ? 4 : 8);
        int height = random.nextInt(isSmall ? 4 : 8);
        GridFills fills = new GridFills(width, height);
        Model model = new Model(width, height);
        int letters = isSmall ? 6 + random.nextInt(5) : 1 + random.nextInt(4);
        boolean scoresAlike = random.nextBoolean();
        int blacks = random.nextInt(isSmall ? 10 : 30);
        for (int i = 0; i < blacks; i++) {
            int x = random.nextInt(7) - 1;
            int y = random.nextInt(7) - 1;
            ANSWERS.due("black", fills.black(x, y, true), model.black(x, y, true));
        }
        int texts = isSmall ? 80 + random.nextInt(20) : random.nextInt(81);
        for (int i = 0; i < texts; i++) {
            addWord(random, fills, model, letters, scoresAlike);
        }
        while (ANSWERS.asked() - before <= CALLS - MOST_CALLS_AT_ONCE && !ANSWERS.isWrong()) {
            oneCall(random, fills, model, letters, scoresAlike);
        }
        if (ANSWERS.isWrong()) {
            System.out.println("seed " + seed);
        }
    }

    private static void addWord(Random random, GridFills fills, Model model, int letters, boolean scoresAlike) {
        int lengths = letters > 5 ? 2 : random.nextInt(5) + 1;
        int length = random.nextInt(20) == 0 ? random.nextInt(9) : 2 + random.nextInt(lengths);
        for (int i = 0; i < length; i++) {
            int u = random.nextInt(200) == 0 ? random.nextInt(130) : 'a' + random.nextInt(letters);
            ANSWERS.due("unit(" + u + ")", fills.unit(u), model.unit(u));
        }
        int score = random.nextInt(50) == 0 ? random.nextInt(3000) - 1000 : random.nextInt(scoresAlike ? 3 : 1001);
        ANSWERS.due("word(" + score + ")", fills.word(score), model.word(score));
    }

    private static void oneCall(Random random, GridFills fills, Model model, int letters, boolean scoresAlike) {
        int x = random.nextInt(8) - 1;
        int y = random.nextInt(8) - 1;
        int slot = random.nextInt(25) - 1;
        switch (random.nextInt(20)) {
            case 0:
                if (random.nextInt(4) == 0) {
                    boolean on = random.nextBoolean();
                    ANSWERS.due("black", fills.black(x, y, on), model.black(x, y, on));
                }
                break;
            case 1:
                addWord(random, fills, model, letters, scoresAlike);
                break;
            case 2:
                int letter = random.nextInt(5) > 0 ? 0 : 'a' + random.nextInt(letters);
                int u = random.nextInt(10) == 0 ? random.nextInt(130) : letter;
                ANSWERS.due("given " + u, fills.given(x, y, u), model.given(x, y, u));
                check(fills, model);
                break;
            case 3:
                int word = random.nextInt(3) > 0 ? -1 : random.nextInt(83) - 2;
                ANSWERS.due("theme " + word, fills.theme(slot, word), model.theme(slot, word));
                check(fills, model);
                break;
            case 4:
            case 5:
                search(random, fills, model);
                break;
            case 6:
            case 7:
            case 8:
                int what = random.nextInt(8) - 1;
                ANSWERS.due("slot " + slot + " " + what, fills.slot(slot, what), model.slot(slot, what));
                break;
            default:
                ask(random, fills, model, x, y);
        }
    }

    private static void search(Random random, GridFills fills, Model model) {
        int limit = random.nextInt(20) == 0 ? random.nextInt(50000) - 20000
                : random.nextBoolean() ? random.nextInt(30) : random.nextInt(3000);
        boolean all = random.nextBoolean();
        int end = all ? model.best(limit) : model.run(limit);
        ANSWERS.due("search " + all + " " + limit, all ? fills.best(limit) : fills.run(limit), end);
        if (end >= 0) {
            ENDS[(all ? 4 : 0) + end]++;
        }
        if (!all && end == 0 && model.steps > model.slots.size()) {
            wentBack++;
        }
        if (end == 0 && model.words.size() > 70) {
            manyWords++;
        }
        ANSWERS.due("steps", fills.steps(), model.steps);
        ANSWERS.due("many", fills.many(), model.many);
        ANSWERS.due("score", fills.score(), model.score());
        for (int slot = 0; slot < model.slots.size(); slot++) {
            ANSWERS.due("word of " + slot, fills.slot(slot, 5), model.slot(slot, 5));
        }
    }

    private static void check(GridFills fills, Model model) {
        int fault = model.check();
        faults += fault > 0 ? 1 : 0;
        ANSWERS.due("check", fills.check(), fault);
    }

    private static void ask(Random random, GridFills fills, Model model, int x, int y) {
        switch (random.nextInt(8)) {
            case 0:
                ANSWERS.due("slots", fills.slots(), model.slots.size());
                break;
            case 1:
                ANSWERS.due("steps", fills.steps(), model.steps);
                break;
            case 2:
                ANSWERS.due("many", fills.many(), model.many);
                break;
            case 3:
                ANSWERS.due("score", fills.score(), model.score());
                break;
            case 4:
                ANSWERS.due("letter", fills.letter(x, y), model.letter(x, y));
                break;
            case 5:
                check(fills, model);
                break;
            case 6:
                int kind = random.nextInt(6) - 1;
                ANSWERS.due("alike " + kind, fills.alike(kind), model.alike(kind));
                break;
            default:
                ANSWERS.due("parts", fills.parts(), model.parts());
        }
    }

    /** The document's words, one by one: nothing is kept that can be asked for anew. */
    private static final class Model {
        final int w;
        final int h;
        final boolean[][] black;
        final char[][] given;
        final List<String> words = new ArrayList<>();
        final List<Integer> scores = new ArrayList<>();
        final StringBuilder collected = new StringBuilder();
        List<int[]> slots = new ArrayList<>();
        int[] themes;
        int[] found;
        int steps;
        int many;
        int limit;

        Model(int width, int height) {
            w = width < 1 ? 1 : width > 6 ? 6 : width;
            h = height < 1 ? 1 : height > 6 ? 6 : height;
            black = new boolean[h][w];
            given = new char[h][w];
            layOut();
        }

        boolean inside(int x, int y) {
            return x >= 0 && y >= 0 && x < w && y < h;
        }

        boolean open(int x, int y) {
            return inside(x, y) && !black[y][x];
        }

        /** A slot: its cells, then 0 or 1 for down. */
        void layOut() {
            slots = new ArrayList<>();
            for (int down = 0; down < 2; down++) {
                for (int cell = 0; cell < w * h; cell++) {
                    int dx = 1 - down;
                    int x = cell % w;
                    int y = cell / w;
                    if (!open(x, y) || open(x - dx, y - down) || !open(x + dx, y + down)) {
                        continue;
                    }
                    List<Integer> cells = new ArrayList<>();
                    for (; open(x, y); x += dx, y += down) {
                        cells.add(x + w * y);
                    }
                    int[] made = new int[cells.size() + 1];
                    for (int i = 0; i < cells.size(); i++) {
                        made[i] = cells.get(i);
                    }
                    made[cells.size()] = down;
                    slots.add(made);
                }
            }
            themes = new int[slots.size()];
            Arrays.fill(themes, -1);
        }

        boolean black(int x, int y, boolean on) {
            if (!inside(x, y) || black[y][x] == on) {
                return false;
            }
            black[y][x] = on;
            for (char[] row : given) {
                Arrays.fill(row, (char) 0);
            }
            found = null;
            layOut();
            return true;
        }

        boolean unit(int u) {
            if (u < 'a' || u > 'z' || collected.length() == 6) {
                return false;
            }
            collected.append((char) u);
            return true;
        }

        int word(int score) {
            String text = collected.toString();
            collected.setLength(0);
            if (text.length() < 2 || words.contains(text) || score < 0 || score > 1000 || words.size() == 80) {
                return -1;
            }
            words.add(text);
            scores.add(score);
            return words.size() - 1;
        }

        boolean given(int x, int y, int u) {
            if (!open(x, y) || (u != 0 && (u < 'a' || u > 'z'))) {
                return false;
            }
            given[y][x] = (char) u;
            return true;
        }

        int lengthOf(int slot) {
            return slots.get(slot).length - 1;
        }

        boolean theme(int slot, int word) {
            if (slot < 0 || slot >= slots.size() || word < -1 || word >= words.size()
                    || (word >= 0 && words.get(word).length() != lengthOf(slot))) {
                return false;
            }
            themes[slot] = word;
            return true;
        }

        int slot(int slot, int what) {
            if (slot < 0 || slot >= slots.size()) {
                return -1;
            }
            int[] cells = slots.get(slot);
            switch (what) {
                case 0: return cells[0];
                case 1: return lengthOf(slot);
                case 2: return cells[cells.length - 1];
                case 3: return themes[slot];
                case 4: return candidates(slot, new int[0]).size();
                case 5: return found == null ? -1 : found[slot];
                default: return -1;
            }
        }

        /** The letters by given ones and the words that are there. */
        char[] lettersBy(int[] put, boolean withGiven) {
            char[] letters = new char[w * h];
            for (int cell = 0; cell < w * h && withGiven; cell++) {
                letters[cell] = given[cell / w][cell % w];
            }
            for (int slot = 0; slot < put.length; slot++) {
                for (int i = 0; put[slot] >= 0 && i < lengthOf(slot); i++) {
                    letters[slots.get(slot)[i]] = words.get(put[slot]).charAt(i);
                }
            }
            return letters;
        }

        List<Integer> candidates(int slot, int[] put) {
            char[] letters = lettersBy(put, true);
            List<Integer> fit = new ArrayList<>();
            for (int word = 0; word < words.size(); word++) {
                boolean fits = words.get(word).length() == lengthOf(slot)
                        && (themes[slot] < 0 || themes[slot] == word);
                for (int other : put) {
                    fits &= other != word;
                }
                for (int i = 0; fits && i < lengthOf(slot); i++) {
                    char there = letters[slots.get(slot)[i]];
                    fits = there == 0 || there == words.get(word).charAt(i);
                }
                if (fits) {
                    fit.add(word);
                }
            }
            fit.sort((a, b) -> scores.get(b) - scores.get(a));
            return fit;
        }

        int run(int most) {
            return seek(most, false);
        }

        int best(int most) {
            return seek(most, true);
        }

        int seek(int most, boolean all) {
            if (most < 0 || most > 20000) {
                return -1;
            }
            limit = most;
            steps = 0;
            many = 0;
            found = null;
            int[] put = new int[slots.size()];
            Arrays.fill(put, -1);
            int end = fill(put, all);
            return end == 2 ? 2 : found == null ? 1 : 0;
        }

        /** 0: go on, 1: done, 2: the steps do not do. */
        int fill(int[] put, boolean all) {
            int next = -1;
            List<Integer> fewest = null;
            for (int slot = 0; slot < put.length; slot++) {
                if (put[slot] < 0) {
                    List<Integer> fit = candidates(slot, put);
                    if (fewest == null || fit.size() < fewest.size()) {
                        fewest = fit;
                        next = slot;
                    }
                }
            }
            if (next < 0) {
                many++;
                if (found == null || sum(put) > sum(found)) {
                    found = put.clone();
                }
                return all ? 0 : 1;
            }
            for (int word : fewest) {
                if (steps == limit) {
                    return 2;
                }
                steps++;
                put[next] = word;
                int end = fill(put, all);
                put[next] = -1;
                if (end != 0) {
                    return end;
                }
            }
            return 0;
        }

        int sum(int[] put) {
            int sum = 0;
            for (int word : put) {
                sum += scores.get(word);
            }
            return sum;
        }

        int score() {
            return found == null ? -1 : sum(found);
        }

        int letter(int x, int y) {
            if (!inside(x, y)) {
                return -1;
            }
            return found == null ? 0 : lettersBy(found, false)[x + w * y];
        }

        int check() {
            if (found == null) {
                return -1;
            }
            for (int slot = 0; slot < slots.size(); slot++) {
                if (themes[slot] >= 0 && themes[slot] != found[slot]) {
                    return 1 + slot;
                }
                for (int i = 0; i < lengthOf(slot); i++) {
                    int cell = slots.get(slot)[i];
                    char there = given[cell / w][cell % w];
                    if (there != 0 && there != words.get(found[slot]).charAt(i)) {
                        return 1 + slot;
                    }
                }
            }
            return 0;
        }

        boolean alike(int kind) {
            if (kind < 0 || kind > 3 || (kind == 3 && w != h)) {
                return false;
            }
            boolean same = true;
            for (int y = 0; y < h; y++) {
                for (int x = 0; x < w; x++) {
                    boolean turned = kind == 0 ? black[h - 1 - y][w - 1 - x]
                            : kind == 1 ? black[y][w - 1 - x]
                            : kind == 2 ? black[h - 1 - y][x]
                            : black[x][y];
                    same &= turned == black[y][x];
                }
            }
            return same;
        }

        int parts() {
            boolean[][] seen = new boolean[h][w];
            int parts = 0;
            for (int y = 0; y < h; y++) {
                for (int x = 0; x < w; x++) {
                    parts += flood(x, y, seen) ? 1 : 0;
                }
            }
            return parts;
        }

        boolean flood(int x, int y, boolean[][] seen) {
            if (!open(x, y) || seen[y][x]) {
                return false;
            }
            seen[y][x] = true;
            flood(x + 1, y, seen);
            flood(x - 1, y, seen);
            flood(x, y + 1, seen);
            flood(x, y - 1, seen);
            return true;
        }
    }
}
