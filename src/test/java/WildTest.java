import java.util.Random;

/** No call throws, whatever its arguments and whatever came before; and the dearest ones end. */
final class WildTest {
    private static final Answers ANSWERS = new Answers();
    private static final int[] EDGES = {Integer.MIN_VALUE, Integer.MIN_VALUE + 1, -20001, -2, -1, 0, 1, 2, 5, 6, 7,
        23, 24, 25, 35, 36, 79, 80, 81, 96, 97, 122, 123, 1000, 1001, 20000, 20001, Integer.MAX_VALUE - 1,
        Integer.MAX_VALUE};

    public static void main(String[] args) {
        for (int seed = 0; seed < 1000; seed++) {
            wildRun(new Random(seed));
        }
        dearest(false);
        dearest(true);
        ANSWERS.end();
    }

    private static int draw(Random random) {
        return random.nextInt(3) > 0 ? random.nextInt(8) - 1 : EDGES[random.nextInt(EDGES.length)];
    }

    private static void wildRun(Random random) {
        try {
            GridFills fills = new GridFills(draw(random), draw(random));
            // Each makes four calls at most, and 512 are promised.
            for (int i = 0; i < 128; i++) {
                wildCall(random, fills);
            }
            ANSWERS.due("no throw", true, true);
        } catch (RuntimeException thrown) {
            thrown.printStackTrace(System.out);
            ANSWERS.due("no throw", false, true);
        }
    }

    private static int wildCall(Random random, GridFills fills) {
        int a = draw(random);
        int b = draw(random);
        int u = random.nextInt(4) > 0 ? 'a' + random.nextInt(2) : a;
        switch (random.nextInt(24)) {
            case 0: return fills.black(a, b, random.nextBoolean()) ? 1 : 0;
            case 1: return fills.given(a, b, u) ? 1 : 0;
            case 2: return fills.theme(a, b) ? 1 : 0;
            case 3: return fills.slots();
            case 4: return fills.slot(a, b);
            case 5: return fills.run(a);
            case 6: return fills.best(a);
            case 7: return fills.run(20000);
            case 8: return fills.best(100);
            case 9: return fills.steps();
            case 10: return fills.many();
            case 11: return fills.score();
            case 12: return fills.letter(a, b);
            case 13: return fills.check();
            case 14: return fills.alike(a) ? 1 : 0;
            case 15: return fills.parts();
            case 16: return fills.word(a);
            default:
                fills.unit(u);
                fills.unit(u);
                fills.unit('a' + random.nextInt(3));
                return random.nextInt(3) == 0 ? fills.unit(u) ? 1 : 0 : fills.word(random.nextInt(1001));
        }
    }

    /** Many words over few letters: each search goes to its last step. */
    private static void dearest(boolean isCut) {
        Random random = new Random(7);
        GridFills fills = new GridFills(6, 6);
        for (int i = 0; i < (isCut ? 80 : 50); i++) {
            StringBuilder text = new StringBuilder();
            for (int place = 0; place < (isCut ? 2 : 6); place++) {
                text.append((char) ('a' + random.nextInt(isCut ? 9 : 2)));
            }
            Grids.word(fills, text.toString(), random.nextInt(3));
        }
        for (int cell = 0; cell < 36 && isCut; cell++) {
            if (cell % 3 == (cell / 6) % 3) {
                fills.black(cell % 6, cell / 6, true);
            }
        }
        for (int i = 0; i < 100; i++) {
            ANSWERS.due("best(20000)", fills.best(20000) >= 0, true);
        }
        System.out.println("dearest: " + fills.steps() + " steps, " + fills.many() + " fillings, "
                + fills.slots() + " slots");
    }
}
