import java.util.Arrays;

/** Grids filled with words that cross: what each call answers stands in the document's promises. */
public final class GridFills {
    private static final int MOST_SIDE = 6;
    private static final int MOST_CELLS = MOST_SIDE * MOST_SIDE;
    // A line of six cells has room for two slots at most, and there are twelve lines.
    private static final int MOST_SLOTS = 24;
    private static final int MOST_WORDS = 80;
    private static final int LEAST_LENGTH = 2;
    private static final int MOST_LENGTH = 6;
    private static final int MOST_SCORE = 1000;
    private static final int MOST_STEPS = 20000;
    private static final int FIRST_LETTER = 97;
    private static final int LAST_LETTER = 122;
    private static final int ALPHABET = 26;
    private static final int WORDS_OF_LOW = 64;

    private static final int NONE = -1;
    private static final int NO_LETTER = 0;
    private static final int RIGHT = 0;
    private static final int DOWN = 1;

    private static final int FILLED = 0;
    private static final int NO_FILLING = 1;
    private static final int OUT_OF_STEPS = 2;

    private final Grid grid;
    private final WordList list;
    private final Filling found;
    private final Search search;

    public GridFills(int width, int height) {
        grid = new Grid(heldToSide(width), heldToSide(height));
        list = new WordList();
        found = new Filling(grid, list);
        search = new Search(grid, list, found);
    }

    public boolean black(int x, int y, boolean on) {
        int cell = grid.cellAt(x, y);
        if (cell == NONE || grid.isBlack[cell] == on) {
            return false;
        }
        grid.paint(cell, on);
        found.forget();
        return true;
    }

    public boolean unit(int u) {
        return isLetter(u) && list.collect(u);
    }

    public int word(int score) {
        int number = list.wordFromCollected(score);
        list.dropCollected();
        return number;
    }

    public boolean given(int x, int y, int u) {
        int cell = grid.cellAt(x, y);
        if (cell == NONE || grid.isBlack[cell] || (u != NO_LETTER && !isLetter(u))) {
            return false;
        }
        grid.givenAt[cell] = u;
        return true;
    }

    public boolean theme(int slot, int word) {
        if (!grid.hasSlot(slot)) {
            return false;
        }
        if (word != NONE && (!list.hasWord(word) || list.lengthOf[word] != grid.lengthOf[slot])) {
            return false;
        }
        grid.themeOf[slot] = word;
        return true;
    }

    public int slots() {
        return grid.slotCount;
    }

    public int slot(int slot, int what) {
        if (!grid.hasSlot(slot)) {
            return NONE;
        }
        switch (what) {
            case 0:
                return grid.firstOf[slot];
            case 1:
                return grid.lengthOf[slot];
            case 2:
                return grid.directionOf[slot];
            case 3:
                return grid.themeOf[slot];
            case 4:
                return search.countAtStart(slot);
            case 5:
                return found.wordOf(slot);
            default:
                return NONE;
        }
    }

    public int run(int steps) {
        return isStepLimit(steps) ? search.seek(steps, false) : NONE;
    }

    public int best(int steps) {
        return isStepLimit(steps) ? search.seek(steps, true) : NONE;
    }

    public int steps() {
        return search.stepsMade;
    }

    public int many() {
        return search.fillings;
    }

    public int score() {
        return found.total;
    }

    public int letter(int x, int y) {
        int cell = grid.cellAt(x, y);
        return cell == NONE ? NONE : found.letterAt(cell);
    }

    public int check() {
        return found.firstFault();
    }

    public boolean alike(int kind) {
        if (kind < 0 || kind > 3 || (kind == 3 && grid.width != grid.height)) {
            return false;
        }
        return grid.looksTheSame(kind);
    }

    public int parts() {
        return grid.countParts();
    }

    private static int heldToSide(int side) {
        return Math.max(1, Math.min(MOST_SIDE, side));
    }

    private static boolean isLetter(int u) {
        return u >= FIRST_LETTER && u <= LAST_LETTER;
    }

    private static boolean isStepLimit(int steps) {
        return steps >= 0 && steps <= MOST_STEPS;
    }

    /** The cells, the slots between the black ones, and what is wanted of them. */
    private static final class Grid {
        final int width;
        final int height;
        final int cellCount;
        final boolean[] isBlack = new boolean[MOST_CELLS];
        final int[] givenAt = new int[MOST_CELLS];
        int slotCount;
        final int[] firstOf = new int[MOST_SLOTS];
        final int[] lengthOf = new int[MOST_SLOTS];
        final int[] directionOf = new int[MOST_SLOTS];
        final int[] themeOf = new int[MOST_SLOTS];
        // By direction and cell, so that the slot that crosses at a cell is found at once.
        private final int[] slotThrough = new int[2 * MOST_CELLS];
        private final int[] placeThrough = new int[2 * MOST_CELLS];
        private final int[] partOf = new int[MOST_CELLS];

        /** Both sides are 1 to 6 here. */
        Grid(int width, int height) {
            this.width = width;
            this.height = height;
            cellCount = width * height;
            findSlots();
        }

        int cellAt(int x, int y) {
            return x >= 0 && x < width && y >= 0 && y < height ? x + width * y : NONE;
        }

        boolean hasSlot(int slot) {
            return slot >= 0 && slot < slotCount;
        }

        int cellOf(int slot, int place) {
            return firstOf[slot] + place * (directionOf[slot] == RIGHT ? 1 : width);
        }

        int slotAt(int cell, int direction) {
            return slotThrough[direction * MOST_CELLS + cell];
        }

        int placeAt(int cell, int direction) {
            return placeThrough[direction * MOST_CELLS + cell];
        }

        void paint(int cell, boolean on) {
            isBlack[cell] = on;
            Arrays.fill(givenAt, NO_LETTER);
            findSlots();
        }

        /** Numbers the slots anew; themes go, as their slots are not the same any more. */
        private void findSlots() {
            slotCount = 0;
            Arrays.fill(themeOf, NONE);
            Arrays.fill(slotThrough, NONE);
            for (int direction = RIGHT; direction <= DOWN; direction++) {
                for (int y = 0; y < height; y++) {
                    for (int x = 0; x < width; x++) {
                        addSlotFrom(x, y, direction);
                    }
                }
            }
        }

        private void addSlotFrom(int x, int y, int direction) {
            int dx = direction == RIGHT ? 1 : 0;
            int dy = 1 - dx;
            if (isOpen(x - dx, y - dy)) {
                return;
            }
            int length = 0;
            while (length < MOST_LENGTH && isOpen(x + length * dx, y + length * dy)) {
                length++;
            }
            if (length >= LEAST_LENGTH && slotCount < MOST_SLOTS) {
                firstOf[slotCount] = cellAt(x, y);
                lengthOf[slotCount] = length;
                directionOf[slotCount] = direction;
                markCells(slotCount);
                slotCount++;
            }
        }

        private void markCells(int slot) {
            for (int place = 0; place < lengthOf[slot]; place++) {
                int at = directionOf[slot] * MOST_CELLS + cellOf(slot, place);
                slotThrough[at] = slot;
                placeThrough[at] = place;
            }
        }

        private boolean isOpen(int x, int y) {
            int cell = cellAt(x, y);
            return cell != NONE && !isBlack[cell];
        }

        /** Kind 3 is asked of square grids alone: only there has each cell an image. */
        boolean looksTheSame(int kind) {
            for (int y = 0; y < height; y++) {
                for (int x = 0; x < width; x++) {
                    if (isOpen(x, y) != imageIsOpen(kind, x, y)) {
                        return false;
                    }
                }
            }
            return true;
        }

        private boolean imageIsOpen(int kind, int x, int y) {
            switch (kind) {
                case 0:
                    return isOpen(width - 1 - x, height - 1 - y);
                case 1:
                    return isOpen(width - 1 - x, y);
                case 2:
                    return isOpen(x, height - 1 - y);
                default:
                    return isOpen(y, x);
            }
        }

        /** Each open cell counts as a part of its own until it is joined to a neighbour's. */
        int countParts() {
            int count = 0;
            for (int cell = 0; cell < cellCount; cell++) {
                partOf[cell] = cell;
                count += isBlack[cell] ? 0 : 1;
            }
            for (int y = 0; y < height; y++) {
                for (int x = 0; x < width; x++) {
                    count -= join(x, y, x + 1, y) ? 1 : 0;
                    count -= join(x, y, x, y + 1) ? 1 : 0;
                }
            }
            return count;
        }

        /** Whether two parts have become one by it. */
        private boolean join(int x, int y, int otherX, int otherY) {
            if (!isOpen(x, y) || !isOpen(otherX, otherY)) {
                return false;
            }
            int kept = partOf[cellAt(x, y)];
            int gone = partOf[cellAt(otherX, otherY)];
            if (kept == gone) {
                return false;
            }
            for (int cell = 0; cell < cellCount; cell++) {
                if (partOf[cell] == gone) {
                    partOf[cell] = kept;
                }
            }
            return true;
        }
    }

    /**
     * The words and the letters collected for the next one. Sets of words are two longs, low and
     * high, with a bit for each RANK: the words' order by falling scores, of alike ones by numbers.
     * So the lowest bit of a set is the word that the search tries first.
     */
    private static final class WordList {
        int count;
        final int[] lengthOf = new int[MOST_WORDS];
        final int[] scoreOf = new int[MOST_WORDS];
        final int[] wordOfRank = new int[MOST_WORDS];
        final int[] rankOf = new int[MOST_WORDS];
        final long[] lowOfLength = new long[MOST_LENGTH + 1];
        final long[] highOfLength = new long[MOST_LENGTH + 1];
        final long[] lowOfKey = new long[MOST_LENGTH * ALPHABET];
        final long[] highOfKey = new long[MOST_LENGTH * ALPHABET];
        private final int[] letters = new int[MOST_WORDS * MOST_LENGTH];
        private final int[] collected = new int[MOST_LENGTH];
        private int collectedCount;

        static long lowBit(int rank) {
            return rank < WORDS_OF_LOW ? 1L << rank : 0L;
        }

        static long highBit(int rank) {
            return rank < WORDS_OF_LOW ? 0L : 1L << (rank - WORDS_OF_LOW);
        }

        /** Where the set of the words with this letter at this place stands. */
        static int keyOf(int place, int letter) {
            return place * ALPHABET + letter - FIRST_LETTER;
        }

        boolean hasWord(int word) {
            return word >= 0 && word < count;
        }

        int letterOf(int word, int place) {
            return letters[word * MOST_LENGTH + place];
        }

        boolean collect(int letter) {
            if (collectedCount >= MOST_LENGTH) {
                return false;
            }
            collected[collectedCount] = letter;
            collectedCount++;
            return true;
        }

        void dropCollected() {
            collectedCount = 0;
        }

        int wordFromCollected(int score) {
            if (collectedCount < LEAST_LENGTH || score < 0 || score > MOST_SCORE
                    || count >= MOST_WORDS || isThere()) {
                return NONE;
            }
            int number = count;
            lengthOf[number] = collectedCount;
            scoreOf[number] = score;
            System.arraycopy(collected, 0, letters, number * MOST_LENGTH, collectedCount);
            rank(number);
            count++;
            sortIntoSets();
            return number;
        }

        private boolean isThere() {
            for (int number = 0; number < count; number++) {
                if (isCollected(number)) {
                    return true;
                }
            }
            return false;
        }

        private boolean isCollected(int number) {
            if (lengthOf[number] != collectedCount) {
                return false;
            }
            for (int place = 0; place < collectedCount; place++) {
                if (letterOf(number, place) != collected[place]) {
                    return false;
                }
            }
            return true;
        }

        /** The newest word goes behind all that score as much, as its number is the greatest. */
        private void rank(int number) {
            int at = number;
            while (at > 0 && scoreOf[wordOfRank[at - 1]] < scoreOf[number]) {
                wordOfRank[at] = wordOfRank[at - 1];
                at--;
            }
            wordOfRank[at] = number;
        }

        /** All sets are made anew, as a new word moves the ranks of those behind it. */
        private void sortIntoSets() {
            Arrays.fill(lowOfLength, 0L);
            Arrays.fill(highOfLength, 0L);
            Arrays.fill(lowOfKey, 0L);
            Arrays.fill(highOfKey, 0L);
            for (int rank = 0; rank < count; rank++) {
                int number = wordOfRank[rank];
                rankOf[number] = rank;
                lowOfLength[lengthOf[number]] |= lowBit(rank);
                highOfLength[lengthOf[number]] |= highBit(rank);
                for (int place = 0; place < lengthOf[number]; place++) {
                    int key = keyOf(place, letterOf(number, place));
                    lowOfKey[key] |= lowBit(rank);
                    highOfKey[key] |= highBit(rank);
                }
            }
        }
    }

    /** What was found. */
    private static final class Filling {
        private final Grid grid;
        private final WordList list;
        private final int[] wordIn = new int[MOST_SLOTS];
        // NONE as long as nothing is found.
        int total = NONE;

        Filling(Grid grid, WordList list) {
            this.grid = grid;
            this.list = list;
        }

        void forget() {
            total = NONE;
        }

        void keep(int[] words, int sum) {
            System.arraycopy(words, 0, wordIn, 0, grid.slotCount);
            total = sum;
        }

        int wordOf(int slot) {
            return total == NONE ? NONE : wordIn[slot];
        }

        int letterAt(int cell) {
            int letter = letterBy(cell, RIGHT);
            return letter == NO_LETTER ? letterBy(cell, DOWN) : letter;
        }

        /** The letter that a cell has by its slot in one direction. */
        private int letterBy(int cell, int direction) {
            int slot = grid.slotAt(cell, direction);
            if (total == NONE || slot == NONE) {
                return NO_LETTER;
            }
            return list.letterOf(wordIn[slot], grid.placeAt(cell, direction));
        }

        int firstFault() {
            if (total == NONE) {
                return NONE;
            }
            for (int slot = 0; slot < grid.slotCount; slot++) {
                if (!holds(slot)) {
                    return 1 + slot;
                }
            }
            return 0;
        }

        private boolean holds(int slot) {
            if (grid.themeOf[slot] != NONE && grid.themeOf[slot] != wordIn[slot]) {
                return false;
            }
            int across = 1 - grid.directionOf[slot];
            for (int place = 0; place < grid.lengthOf[slot]; place++) {
                int cell = grid.cellOf(slot, place);
                int letter = list.letterOf(wordIn[slot], place);
                if (!agrees(grid.givenAt[cell], letter) || !agrees(letterBy(cell, across), letter)) {
                    return false;
                }
            }
            return true;
        }

        private static boolean agrees(int wanted, int letter) {
            return wanted == NO_LETTER || wanted == letter;
        }
    }

    /** Puts words slot by slot, the slot with fewest candidates next, and goes back. */
    private static final class Search {
        private final Grid grid;
        private final WordList list;
        private final Filling found;
        // The words that fit, by level (how many slots have words) and slot; used ones may be among
        // them. A level has its own row, so that going back needs no undoing.
        private final long[] low = new long[(MOST_SLOTS + 1) * MOST_SLOTS];
        private final long[] high = new long[(MOST_SLOTS + 1) * MOST_SLOTS];
        private final int[] wordIn = new int[MOST_SLOTS];
        private long usedLow;
        private long usedHigh;
        private int sum;
        private int mostSteps;
        private boolean wantsAll;
        private boolean ranOut;
        int stepsMade;
        int fillings;

        Search(Grid grid, WordList list, Filling found) {
            this.grid = grid;
            this.list = list;
            this.found = found;
        }

        int seek(int limit, boolean all) {
            mostSteps = limit;
            wantsAll = all;
            ranOut = false;
            stepsMade = 0;
            fillings = 0;
            sum = 0;
            found.forget();
            clearSlots();
            fillFrom(0);
            if (ranOut) {
                return OUT_OF_STEPS;
            }
            return fillings > 0 ? FILLED : NO_FILLING;
        }

        int countAtStart(int slot) {
            openSlot(slot);
            return Long.bitCount(low[slot]) + Long.bitCount(high[slot]);
        }

        private void clearSlots() {
            usedLow = 0L;
            usedHigh = 0L;
            for (int slot = 0; slot < grid.slotCount; slot++) {
                wordIn[slot] = NONE;
                openSlot(slot);
            }
        }

        /** Level 0: the slot's candidates by its length, given letters and theme. */
        private void openSlot(int slot) {
            int length = grid.lengthOf[slot];
            low[slot] = list.lowOfLength[length];
            high[slot] = list.highOfLength[length];
            for (int place = 0; place < length; place++) {
                int letter = grid.givenAt[grid.cellOf(slot, place)];
                if (letter != NO_LETTER) {
                    narrow(slot, WordList.keyOf(place, letter));
                }
            }
            int theme = grid.themeOf[slot];
            if (theme != NONE) {
                low[slot] &= WordList.lowBit(list.rankOf[theme]);
                high[slot] &= WordList.highBit(list.rankOf[theme]);
            }
        }

        private void narrow(int at, int key) {
            low[at] &= list.lowOfKey[key];
            high[at] &= list.highOfKey[key];
        }

        /** Whether the search goes on after all that this level came to. */
        private boolean fillFrom(int level) {
            if (level >= grid.slotCount) {
                return takeFilling();
            }
            int slot = slotWithFewest(level);
            if (slot == NONE) {
                return true;
            }
            int at = level * MOST_SLOTS + slot;
            long leftLow = low[at] & ~usedLow;
            long leftHigh = high[at] & ~usedHigh;
            boolean goesOn = true;
            for (int left = Long.bitCount(leftLow) + Long.bitCount(leftHigh); left > 0 && goesOn; left--) {
                if (leftLow != 0L) {
                    goesOn = tryWord(level, slot, lowestBit(leftLow));
                    leftLow &= leftLow - 1;
                } else {
                    goesOn = tryWord(level, slot, WORDS_OF_LOW + lowestBit(leftHigh));
                    leftHigh &= leftHigh - 1;
                }
            }
            return goesOn;
        }

        private static int lowestBit(long set) {
            return Long.bitCount((set & -set) - 1);
        }

        private boolean takeFilling() {
            fillings++;
            if (sum > found.total) {
                found.keep(wordIn, sum);
            }
            return wantsAll;
        }

        private int slotWithFewest(int level) {
            int fewest = MOST_WORDS + 1;
            int next = NONE;
            int row = level * MOST_SLOTS;
            // None can have fewer than 0, and which slot it is does not matter then.
            for (int slot = 0; slot < grid.slotCount && fewest > 0; slot++) {
                if (wordIn[slot] == NONE) {
                    int count = Long.bitCount(low[row + slot] & ~usedLow)
                            + Long.bitCount(high[row + slot] & ~usedHigh);
                    if (count < fewest) {
                        fewest = count;
                        next = slot;
                    }
                }
            }
            return next;
        }

        private boolean tryWord(int level, int slot, int rank) {
            if (stepsMade >= mostSteps) {
                ranOut = true;
                return false;
            }
            stepsMade++;
            int word = list.wordOfRank[rank];
            wordIn[slot] = word;
            usedLow |= WordList.lowBit(rank);
            usedHigh |= WordList.highBit(rank);
            sum += list.scoreOf[word];
            narrowCrossing(level, slot, word);
            boolean goesOn = fillFrom(level + 1);
            sum -= list.scoreOf[word];
            usedLow &= ~WordList.lowBit(rank);
            usedHigh &= ~WordList.highBit(rank);
            wordIn[slot] = NONE;
            return goesOn;
        }

        /** Makes the next level's row: this one's, but for the slots that the word crosses. */
        private void narrowCrossing(int level, int slot, int word) {
            int row = level * MOST_SLOTS;
            int nextRow = row + MOST_SLOTS;
            System.arraycopy(low, row, low, nextRow, grid.slotCount);
            System.arraycopy(high, row, high, nextRow, grid.slotCount);
            int across = 1 - grid.directionOf[slot];
            for (int place = 0; place < grid.lengthOf[slot]; place++) {
                int cell = grid.cellOf(slot, place);
                int crossing = grid.slotAt(cell, across);
                if (crossing != NONE) {
                    int placeThere = grid.placeAt(cell, across);
                    narrow(nextRow + crossing, WordList.keyOf(placeThere, list.letterOf(word, place)));
                }
            }
        }
    }
}
