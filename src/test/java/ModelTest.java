import java.util.Random;
import java.util.function.ToIntFunction;

/** Random calls on the class and on the document written a second time: the answers are the same. */
public final class ModelTest {
    private static final int BOARDS = 6000;
    private static final int PROGRAM = 240;
    private static final int ACTS = 110;
    private static final int[] EDGES = {
        -1, 0, 1, 7, 8, 15, 16, 22, 23, 24, 127, 128, 200, 201, 255, 256, 2047, 2048, 4000, 4001, 65535, 65536,
        Integer.MAX_VALUE, Integer.MIN_VALUE,
    };
    /** First digits of the language, the ones with most to them oftener; and the ends of 8, E and F. */
    private static final String STEPS = "00123345677888889AAABCDDDDDDEFFFFFF";
    private static final int[] ARITHMETIC = {0, 1, 2, 3, 4, 5, 6, 7, 14};
    private static final int[] SYSTEM = {0x07, 0x0A, 0x15, 0x18, 0x1E, 0x29, 0x33, 0x55, 0x65};
    /** Instructions that meet video, keys and interrupts, which chance alone would bring too seldom. */
    private static final int[] MEETINGS = {0x69, 0x69, 0x61, 0x62, 0x34, 0x3C, 0x36, 0x3E, 0x70, 0x71};

    private static final Check CHECK = new Check();

    /** A call of the face, and the same one on the model. */
    private record Call(String name, ToIntFunction<VipBoard> board, ToIntFunction<Model> model) {
    }

    private final Random random;
    private final VipBoard board = new VipBoard();
    private final Model model = new Model();
    private final boolean isGame;
    private final int from;
    private int calls;
    private boolean differs;
    private boolean stuck;

    private ModelTest(int seed) {
        random = new Random(seed);
        isGame = random.nextBoolean();
        from = random.nextInt(8) == 0 ? 2048 - PROGRAM : 2 * random.nextInt((2048 - PROGRAM) / 2);
    }

    public static void main(String[] args) {
        for (int seed = 0; seed < BOARDS; seed++) {
            CHECK.about("seed " + seed + ": ");
            new ModelTest(seed).compare();
        }
        CHECK.end();
    }

    private void compare() {
        if (!isGame) {
            fill();
        }
        for (int k = 0; k < (isGame ? PROGRAM : PROGRAM / 2); k += 2) {
            pokePair(from + k, isGame ? step() : instruction() * 256 + instruction());
        }
        // Video goes on first in most runs, and takes its bytes by a register that is not P's.
        make(pokeCall(from, random.nextInt(8) == 0 ? 0xE3 : 0x69));
        make(setCall(18, random.nextInt(16)));
        for (int n = 0; n < 16; n++) {
            make(setCall(n, random.nextInt(6) == 0 ? random.nextInt(65536) : somewhere()));
        }
        make(setCall(model.cpu(18), from));
        make(startCall(from));
        for (int k = 0; k < ACTS; k++) {
            make(random.nextInt(6) == 0 ? edge() : act());
            make(question());
        }
        while (calls < Board.MOST_CALLS) {
            make(question());
        }
    }

    /** Sixteen instructions over and over, written by the language: a memory of 0 would only idle. */
    private void fill() {
        int at = 2000;
        for (int x = 0; x < 16; x++) {
            pokePair(at + 2 * x, 0x6000 + 256 * x + instruction());
        }
        pokePair(at + 32, 0xA000);
        pokePair(at + 34, 0xFF55);
        pokePair(at + 36, 0x1000 + at + 34);
        make(startCall(at));
        make(chipCall(200));
        make(chipCall(67));
    }

    private void pokePair(int address, int pair) {
        make(pokeCall(address, pair / 256));
        make(pokeCall(address + 1, pair % 256));
    }

    private int somewhere() {
        return from + 2 * random.nextInt(PROGRAM / 2);
    }

    private void make(Call call) {
        calls++;
        if (differs) {
            return;
        }
        long want = answer(call.model(), model);
        long got = answer(call.board(), board);
        CHECK.due("call " + calls + ", " + call.name(), got, want);
        // What comes behind the first wrong answer tells nothing more.
        differs = got != want;
        stuck = stuck || call.name().startsWith("chip") && want <= 0;
    }

    /** The answer, or a number for the exception. */
    private static <T> long answer(ToIntFunction<T> call, T on) {
        try {
            return call.applyAsInt(on);
        } catch (RuntimeException e) {
            return Long.MIN_VALUE + e.getClass().getName().hashCode();
        }
    }

    private int oneOf(int a, int b) {
        return random.nextBoolean() ? a : b;
    }

    private int instruction() {
        if (random.nextInt(60) == 0) {
            return 0;
        }
        return random.nextInt(6) == 0 ? MEETINGS[random.nextInt(MEETINGS.length)] : 1 + random.nextInt(255);
    }

    private int step() {
        int first = Character.digit(STEPS.charAt(random.nextInt(STEPS.length())), 16);
        int rest = random.nextInt(4096);
        if (random.nextInt(40) == 0) {
            return first * 4096 + rest;
        }
        switch (first) {
            case 0:
                return random.nextInt(6) == 0 ? 0x00E0 : 0x00EE;
            case 1:
            case 2:
                return first * 4096 + somewhere() + (random.nextInt(4) == 0 ? 2048 : 0);
            case 5:
            case 9:
                return first * 4096 + rest / 16 * 16;
            case 8:
                return 0x8000 + rest / 16 * 16 + ARITHMETIC[random.nextInt(ARITHMETIC.length)];
            case 10:
                return 0xA000 + (random.nextBoolean() ? somewhere() : 1500 + random.nextInt(2596));
            case 11:
                return 0xB000 + Math.max(0, somewhere() - random.nextInt(64));
            case 14:
                return 0xE000 + rest / 256 * 256 + oneOf(0x9E, 0xA1);
            case 15:
                return 0xF000 + rest / 256 * 256 + SYSTEM[random.nextInt(SYSTEM.length)];
            default:
                return first * 4096 + rest;
        }
    }

    /** A call that changes something, with arguments that are mostly right. */
    private Call act() {
        if (stuck) {
            stuck = false;
            return random.nextInt(4) == 0 ? keyCall(random.nextInt(16), true) : startCall(somewhere());
        }
        switch (random.nextInt(14)) {
            case 0:
                return pokeCall(from + random.nextInt(PROGRAM), random.nextInt(256));
            case 1:
                return setCall(random.nextInt(16), somewhere());
            case 2:
                return setCall(16 + random.nextInt(7), random.nextInt(2));
            case 3:
                return keyCall(random.nextInt(16), random.nextInt(3) == 0);
            case 4:
                return runCall(1 + random.nextInt(4000));
            case 5:
                return chipCall(1 + random.nextInt(200));
            case 6:
            case 7:
                // The next instruction turns video on or off, wherever the line is by now.
                return pokeCall(model.cpu(model.cpu(18)) % 2048, oneOf(0x69, 0x61));
            case 8:
                return setCall(model.cpu(18), somewhere());
            default:
                return isGame ? chipCall(1 + random.nextInt(12)) : runCall(1 + random.nextInt(oneOf(20, 900)));
        }
    }

    private Call edge() {
        int a = EDGES[random.nextInt(EDGES.length)];
        int b = EDGES[random.nextInt(EDGES.length)];
        switch (random.nextInt(10)) {
            case 0:
                return pokeCall(a, b);
            case 1:
                return peekCall(a);
            case 2:
                return cpuCall(a);
            case 3:
                return setCall(random.nextBoolean() ? a : random.nextInt(23), b);
            case 4:
                return keyCall(a, random.nextBoolean());
            case 5:
                return runCall(a);
            case 6:
                return videoCall(random.nextBoolean() ? a : random.nextInt(8) - 1);
            case 7:
                return shownCall(a, random.nextBoolean() ? b : random.nextInt(8));
            case 8:
                return chipCall(a);
            default:
                return random.nextBoolean() ? vCall(a) : startCall(b);
        }
    }

    private Call question() {
        switch (random.nextInt(8)) {
            case 0:
                return peekCall(random.nextInt(2048));
            case 1:
                return peekCall(random.nextBoolean() ? from + random.nextInt(PROGRAM) : 1792 + random.nextInt(256));
            case 2:
            case 3:
                return cpuCall(random.nextInt(24));
            case 4:
                return videoCall(random.nextInt(6));
            case 5:
                return shownCall(random.nextInt(128), random.nextInt(8));
            default:
                return vCall(random.nextInt(22));
        }
    }

    private static Call pokeCall(int address, int value) {
        return new Call("poke(" + address + ", " + value + ")", b -> {
            b.poke(address, value);
            return 0;
        }, m -> {
            m.poke(address, value);
            return 0;
        });
    }

    private static Call setCall(int what, int value) {
        return new Call("set(" + what + ", " + value + ")", b -> {
            b.set(what, value);
            return 0;
        }, m -> {
            m.set(what, value);
            return 0;
        });
    }

    private static Call keyCall(int k, boolean down) {
        return new Call("key(" + k + ", " + down + ")", b -> {
            b.key(k, down);
            return 0;
        }, m -> {
            m.key(k, down);
            return 0;
        });
    }

    private static Call startCall(int address) {
        return new Call("start(" + address + ")", b -> {
            b.start(address);
            return 0;
        }, m -> {
            m.start(address);
            return 0;
        });
    }

    private static Call peekCall(int address) {
        return new Call("peek(" + address + ")", b -> b.peek(address), m -> m.peek(address));
    }

    private static Call cpuCall(int what) {
        return new Call("cpu(" + what + ")", b -> b.cpu(what), m -> m.cpu(what));
    }

    private static Call runCall(int n) {
        return new Call("run(" + n + ")", b -> b.run(n), m -> m.run(n));
    }

    private static Call videoCall(int what) {
        return new Call("video(" + what + ")", b -> b.video(what), m -> m.video(what));
    }

    private static Call shownCall(int row, int k) {
        return new Call("shown(" + row + ", " + k + ")", b -> b.shown(row, k), m -> m.shown(row, k));
    }

    private static Call chipCall(int n) {
        return new Call("chip(" + n + ")", b -> b.chip(n), m -> m.chip(n));
    }

    private static Call vCall(int what) {
        return new Call("v(" + what + ")", b -> b.v(what), m -> m.v(what));
    }
}
