/** Promise 17: parts. */
final class Promise17Test {
    private static final Answers DUE = new Answers();

    public static void main(String[] args) {
        oneOfAllSizes();
        none();
        sideBySide();
        notCornerToCorner();
        notRoundTheEdge();
        theMostThereCanBe();
        longWays();
        oneInsideAnother();
        asTheyAre();
        DUE.end();
    }

    private static void dueParts(int wanted, String... rows) {
        DUE.due("parts of " + String.join("/", rows), Grids.grid(rows).parts(), wanted);
    }

    private static void oneOfAllSizes() {
        DUE.sentence("How many parts the cells that are not black fall into");
        for (int width = 1; width <= 6; width++) {
            for (int height = 1; height <= 6; height++) {
                DUE.due(width + " x " + height, new GridFills(width, height).parts(), 1);
            }
        }
    }

    private static void none() {
        DUE.sentence("How many parts (all cells are black)");
        dueParts(0, "#");
        dueParts(0, "######");
        dueParts(0, "######", "######", "######", "######", "######", "######");
    }

    private static void sideBySide() {
        DUE.sentence("side by side");
        dueParts(1, "..");
        dueParts(1, ".", ".");
        dueParts(1, "..#", "#..");
        dueParts(2, ".#.");
        dueParts(2, ".", "#", ".");
        dueParts(2, "..#", "###", "#..");
        dueParts(3, ".#.#.");
    }

    private static void notCornerToCorner() {
        DUE.sentence("side by side (not corner to corner)");
        dueParts(2, ".#", "#.");
        dueParts(2, "#.", ".#");
        dueParts(5, ".#.", "#.#", ".#.");
    }

    private static void notRoundTheEdge() {
        DUE.sentence("side by side (not round the edge)");
        dueParts(2, "##.", ".##");
        dueParts(2, ".##.");
        dueParts(2, "#..", "###", "..#");
    }

    private static void theMostThereCanBe() {
        DUE.sentence("How many parts (as many as there can be)");
        dueParts(18, ".#.#.#", "#.#.#.", ".#.#.#", "#.#.#.", ".#.#.#", "#.#.#.");
        dueParts(18, "#.#.#.", ".#.#.#", "#.#.#.", ".#.#.#", "#.#.#.", ".#.#.#");
    }

    private static void longWays() {
        DUE.sentence("fall into (by long ways)");
        dueParts(1, ".#...#", ".#.#.#", ".#.#.#", ".#.#.#", "...#..", "######");
        dueParts(1, ".#.", ".#.", "...");
        dueParts(1, ".#.", "...", "...");
        dueParts(1, ".#.#.#", "......", "......", "......");
        dueParts(1, "......", "#####.", "......", ".#####", "......", "#####.");
        dueParts(1, "......", "####..", "...#..", ".#.#..", ".###..", "......");
    }

    private static void oneInsideAnother() {
        DUE.sentence("fall into (one inside another)");
        dueParts(2, "......", ".####.", ".#..#.", ".#.##.", ".####.", "......");
        dueParts(3, "######", "#....#", "#.##.#", "#....#", "######", ".#.###");
    }

    private static void asTheyAre() {
        DUE.sentence("the cells that are not black (as they are)");
        GridFills fills = new GridFills(3, 1);
        fills.black(1, 0, true);
        DUE.due("parts", fills.parts(), 2);
        DUE.due("parts, asked again", fills.parts(), 2);
        fills.black(2, 0, true);
        DUE.due("parts", fills.parts(), 1);
        fills.black(1, 0, false);
        DUE.due("parts", fills.parts(), 1);
        fills.black(2, 0, false);
        DUE.due("parts", fills.parts(), 1);
    }
}
