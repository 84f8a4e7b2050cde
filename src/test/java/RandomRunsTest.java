import java.util.NoSuchElementException;
import java.util.Random;

/**
 * Random calls on random memory: the machine itself never throws, only exceptions of the face come
 * out, every answer is of its kind, and the same calls give the same answers.
 */
public final class RandomRunsTest {
    private static final int BOARDS = 3000;
    private static final int[] EDGES = {
        -1, 0, 1, 2, 7, 8, 15, 16, 22, 23, 24, 127, 128, 200, 255, 256, 511, 2047, 2048, 4000, 4001,
        65535, 65536, Integer.MAX_VALUE, Integer.MIN_VALUE,
    };
    private static final int THROWN = -1000;

    private static final Check CHECK = new Check();

    public static void main(String[] args) {
        for (int seed = 0; seed < BOARDS; seed++) {
            CHECK.due("the second run of seed " + seed, calls(seed), calls(seed));
        }
        CHECK.end();
    }

    private static long calls(int seed) {
        Random random = new Random(seed);
        VipBoard board = new VipBoard();
        fill(board, random);
        long sum = 0;
        for (int k = 0; k < 200; k++) {
            sum = sum * 31 + answer(board, random, seed);
        }
        return sum;
    }

    private static void fill(VipBoard board, Random random) {
        int from = random.nextBoolean() ? 512 : random.nextInt(1700);
        for (int k = 0; k < 300; k++) {
            board.poke(from + k, random.nextInt(256));
        }
        board.set(random.nextInt(16), from);
        board.start(from);
    }

    private static long answer(VipBoard board, Random random, int seed) {
        int which = random.nextInt(14);
        int a = random.nextBoolean() ? EDGES[random.nextInt(EDGES.length)] : random.nextInt(24);
        int b = random.nextBoolean() ? EDGES[random.nextInt(EDGES.length)] : random.nextInt(256);
        String name = "call " + which + " of seed " + seed + " with " + a + ", " + b;
        try {
            long got = call(board, which, a, b);
            CHECK.due(name + " is of its kind: " + got, got >= -1 && got <= 65535 ? 1 : 0, 1);
            return got;
        } catch (IllegalArgumentException | NoSuchElementException e) {
            return THROWN;
        } catch (UnsupportedOperationException | IllegalStateException e) {
            CHECK.due(name + " threw what only chip may", which >= 9 && which <= 11 ? 1 : 0, 1);
            // Somewhere else the language may find instructions again.
            board.start(random.nextInt(2048));
            return THROWN - 1;
        } catch (RuntimeException e) {
            CHECK.due(name + " threw " + e, 1, 0);
            return THROWN - 2;
        }
    }

    private static long call(VipBoard board, int which, int a, int b) {
        switch (which) {
            case 0:
                board.poke(a, b);
                return 0;
            case 1:
                return board.peek(a);
            case 2:
                return board.cpu(a);
            case 3:
                board.set(a, b);
                return 0;
            case 4:
                board.key(a, b % 2 == 0);
                return 0;
            case 5:
            case 6:
                return board.run(b);
            case 7:
                return board.video(a);
            case 8:
                return board.shown(b, a);
            case 9:
            case 10:
            case 11:
                return board.chip(b);
            case 12:
                return board.v(a);
            default:
                board.start(b);
                return 0;
        }
    }
}
