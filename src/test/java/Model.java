import java.util.ArrayDeque;
import java.util.Deque;
import java.util.NoSuchElementException;

/**
 * The document written a second time, as plainly as it reads and in another form than the class: one
 * cycle at a time, one bit of the screen at a time. Where the class and this one differ, one is wrong.
 */
final class Model {
    private final int[] memory = new int[2048];
    private final int[] r = new int[16];
    /** D, DF, P, X, T, IE, Q, IDLE, in the order of cpu(16) .. cpu(23). */
    private final int[] c = {0, 0, 0, 0, 0, 1, 0, 0};
    private final int[][] screen = new int[128][8];
    private final boolean[] keys = new boolean[16];
    private final int[] v = new int[16];
    private final Deque<Integer> stack = new ArrayDeque<>();
    private boolean on;
    private long time;
    private long fetchedLine = -1;
    private long interruptedFrame = -1;
    private int told;
    private int i;
    private int pc = 512;
    private int delay;
    private int tone;
    private int random;

    private static void require(boolean holds) {
        if (!holds) {
            throw new IllegalArgumentException();
        }
    }

    private static void exists(boolean holds) {
        if (!holds) {
            throw new NoSuchElementException();
        }
    }

    private static boolean within(int n, int least, int most) {
        return least <= n && n <= most;
    }

    void poke(int address, int value) {
        require(within(address, 0, 2047) && within(value, 0, 255));
        memory[address] = value;
    }

    int peek(int address) {
        return within(address, 0, 2047) ? memory[address] : -1;
    }

    int cpu(int what) {
        exists(within(what, 0, 23));
        return what < 16 ? r[what] : c[what - 16];
    }

    void set(int what, int value) {
        require(within(what, 0, 22));
        int[] kinds = {8, 1, 4, 4, 8, 1, 1};
        int bits = what < 16 ? 16 : kinds[what - 16];
        require(within(value, 0, (int) Math.pow(2, bits) - 1));
        if (what < 16) {
            r[what] = value;
        } else {
            c[what - 16] = value;
        }
    }

    void key(int k, boolean down) {
        require(within(k, 0, 15));
        keys[k] = down;
    }

    int video(int what) {
        exists(within(what, 0, 5));
        int[] answers = {on ? 1 : 0, line(), (int) (time % 14), (int) (time / 14 / 262), ef(1) ? 1 : 0, told};
        return answers[what];
    }

    int shown(int row, int k) {
        exists(within(row, 0, 127) && within(k, 0, 7));
        return screen[row][k];
    }

    int v(int what) {
        exists(within(what, 0, 21));
        int[] others = {i, pc, stack.size(), delay, tone, random};
        return what < 16 ? v[what] : others[what - 16];
    }

    void start(int address) {
        require(within(address, 0, 2047));
        pc = address;
        stack.clear();
    }

    // Time and video.

    private int line() {
        return (int) (time / 14 % 262);
    }

    private boolean ef(int n) {
        if (n == 1) {
            return on && (within(line(), 60, 63) || within(line(), 188, 191));
        }
        return n == 3 && keys[told];
    }

    private void cycle() {
        time++;
        if (time % (14 * 262) == 0) {
            delay = Math.max(0, delay - 1);
            tone = Math.max(0, tone - 1);
        }
    }

    int run(int n) {
        require(within(n, 1, 4000));
        long from = time;
        while (time - from < n) {
            int cycles = 1;
            if (c[7] == 0) {
                int code = next();
                instruction(code / 16, code % 16);
                cycles = code / 16 == 12 ? 3 : 2;
            }
            for (int k = 0; k < cycles; k++) {
                cycle();
            }
            afterwards();
        }
        return (int) (time - from);
    }

    private void afterwards() {
        if (!on) {
            return;
        }
        long frame = time / 14 / 262;
        if (within(line(), 64, 191) && fetchedLine != time / 14 && time % 14 >= 2) {
            fetchedLine = time / 14;
            int row = line() - 64;
            for (int k = 0; k < 8; k++) {
                screen[row][k] = m(0);
                r[0] = wrap16(r[0] + 1);
                cycle();
            }
            c[7] = 0;
        } else if (within(line(), 62, 63) && c[5] == 1 && interruptedFrame != frame) {
            interruptedFrame = frame;
            c[4] = 16 * c[3] + c[2];
            c[3] = 2;
            c[2] = 1;
            c[5] = 0;
            c[7] = 0;
            cycle();
        }
    }

    // The processor.

    private static int wrap16(int n) {
        return Math.floorMod(n, 65536);
    }

    private int m(int n) {
        return memory[r[n] % 2048];
    }

    private void putM(int n, int value) {
        memory[r[n] % 2048] = value;
    }

    private void grow(int n, int by) {
        r[n] = wrap16(r[n] + by);
    }

    private int next() {
        int value = m(c[2]);
        grow(c[2], 1);
        return value;
    }

    private boolean condition(int n) {
        if (n >= 8) {
            return !condition(n - 8);
        }
        return n == 0 || n == 1 && c[6] == 1 || n == 2 && c[0] == 0 || n == 3 && c[1] == 1 || n >= 4 && ef(n - 3);
    }

    private void instruction(int group, int n) {
        int p = c[2];
        switch (group) {
            case 0 -> {
                if (n == 0) {
                    c[7] = 1;
                } else {
                    c[0] = m(n);
                }
            }
            case 1 -> grow(n, 1);
            case 2 -> grow(n, -1);
            case 3 -> {
                if (condition(n)) {
                    r[p] = r[p] / 256 * 256 + m(p);
                } else {
                    grow(p, 1);
                }
            }
            case 4 -> {
                c[0] = m(n);
                grow(n, 1);
            }
            case 5 -> putM(n, c[0]);
            case 6 -> ports(n);
            case 7 -> seven(n);
            case 8 -> c[0] = r[n] % 256;
            case 9 -> c[0] = r[n] / 256;
            case 10 -> r[n] = r[n] / 256 * 256 + c[0];
            case 11 -> r[n] = c[0] * 256 + r[n] % 256;
            case 12 -> twelve(n);
            case 13 -> c[2] = n;
            case 14 -> c[3] = n;
            default -> arithmetic(n, 0, 0);
        }
    }

    private void ports(int n) {
        int x = c[3];
        if (n == 0) {
            grow(x, 1);
        } else if (n <= 7) {
            if (n == 1) {
                on = false;
            }
            if (n == 2) {
                told = m(x) % 16;
            }
            grow(x, 1);
        } else if (n >= 9) {
            putM(x, 0);
            c[0] = 0;
            on = on || n == 9;
        }
    }

    private void seven(int n) {
        int x = c[3];
        switch (n) {
            case 0, 1 -> {
                int both = m(x);
                grow(x, 1);
                c[3] = both / 16;
                c[2] = both % 16;
                c[5] = n == 0 ? 1 : 0;
            }
            case 2 -> {
                c[0] = m(x);
                grow(x, 1);
            }
            case 3 -> {
                putM(x, c[0]);
                grow(x, -1);
            }
            case 8 -> putM(x, c[4]);
            case 9 -> {
                c[4] = 16 * x + c[2];
                putM(2, c[4]);
                c[3] = c[2];
                grow(2, -1);
            }
            case 10 -> c[6] = 0;
            case 11 -> c[6] = 1;
            default -> arithmetic(n, c[1], 1 - c[1]);
        }
    }

    /** 4 to 7 and 12 to 15 of I 7 and 15, and the others of 15. */
    private void arithmetic(int n, int carry, int borrow) {
        int d = c[0];
        if (n == 6) {
            c[0] = d / 2 + 128 * carry;
            c[1] = d % 2;
            return;
        }
        if (n == 14) {
            c[0] = d * 2 % 256 + carry;
            c[1] = d / 128;
            return;
        }
        int other = n < 8 ? m(c[3]) : next();
        switch (n % 8) {
            case 0 -> c[0] = other;
            case 1 -> c[0] = d | other;
            case 2 -> c[0] = d & other;
            case 3 -> c[0] = d ^ other;
            case 4 -> {
                c[0] = (other + d + carry) % 256;
                c[1] = (other + d + carry) / 256;
            }
            case 5 -> difference(other, d + borrow);
            default -> difference(d, other + borrow);
        }
    }

    private void difference(int from, int less) {
        c[0] = Math.floorMod(from - less, 256);
        c[1] = less <= from ? 1 : 0;
    }

    private void twelve(int n) {
        int p = c[2];
        if (n <= 3 || within(n, 9, 11)) {
            int high = memory[r[p] % 2048];
            int low = memory[(r[p] + 1) % 2048];
            r[p] = condition(n) ? high * 256 + low : wrap16(r[p] + 2);
            return;
        }
        boolean[] skips = {c[6] == 0, c[0] != 0, c[1] == 0, true, false, false, false, c[5] == 1, c[6] == 1,
            c[0] == 0, c[1] == 1};
        if (n >= 5 && skips[n - 5]) {
            grow(p, 2);
        }
    }

    // The language.

    int chip(int n) {
        require(within(n, 1, 200));
        for (int made = 0; made < n; made++) {
            int before = pc;
            int code = memory[pc % 2048] * 256 + memory[(pc + 1) % 2048];
            String digits = String.format("%04X", code);
            if (digits.matches("F.0A") && least() < 0) {
                return made;
            }
            if (digits.equals("00EE") && stack.isEmpty() || digits.matches("2...") && stack.size() == 12) {
                throw new IllegalStateException();
            }
            pc = (before + 2) % 4096;
            if (!step(digits, code / 256 % 16, code / 16 % 16, code % 256, code % 4096)) {
                pc = before;
                throw new UnsupportedOperationException();
            }
        }
        return n;
    }

    private int least() {
        for (int k = 0; k < 16; k++) {
            if (keys[k]) {
                return k;
            }
        }
        return -1;
    }

    private void skip(boolean holds) {
        pc = (pc + (holds ? 2 : 0)) % 4096;
    }

    /** False if the instruction is none. */
    private boolean step(String digits, int x, int y, int nn, int nnn) {
        switch (digits.charAt(0)) {
            case '1' -> pc = nnn;
            case '2' -> {
                stack.push(pc);
                pc = nnn;
            }
            case '3' -> skip(v[x] == nn);
            case '4' -> skip(v[x] != nn);
            case '6' -> v[x] = nn;
            case '7' -> v[x] = (v[x] + nn) % 256;
            case 'A' -> i = nnn;
            case 'B' -> pc = (nnn + v[0]) % 4096;
            case 'C' -> {
                random = (5 * random + 1) % 256;
                v[x] = random & nn;
            }
            case 'D' -> draw(v[x] % 64, v[y] % 32, nn % 16);
            case '8' -> {
                return eight(digits.charAt(3), x, v[x], v[y]);
            }
            case 'F' -> {
                return eff(digits.substring(2), x);
            }
            default -> {
                return other(digits, x, y);
            }
        }
        return true;
    }

    private boolean other(String digits, int x, int y) {
        boolean down = keys[v[x] % 16];
        if (digits.equals("00E0")) {
            for (int k = 1792; k < 2048; k++) {
                memory[k] = 0;
            }
        } else if (digits.equals("00EE")) {
            pc = stack.pop();
        } else if (digits.matches("5..0")) {
            skip(v[x] == v[y]);
        } else if (digits.matches("9..0")) {
            skip(v[x] != v[y]);
        } else if (digits.matches("E.9E")) {
            skip(down);
        } else if (digits.matches("E.A1")) {
            skip(!down);
        } else {
            return false;
        }
        return true;
    }

    private boolean eight(char kind, int x, int vx, int vy) {
        int[] logic = {vy, vx | vy, vx & vy, vx ^ vy};
        switch (kind) {
            case '0', '1', '2', '3' -> v[x] = logic[kind - '0'];
            case '4' -> both(x, vx + vy, vx + vy > 255);
            case '5' -> both(x, vx - vy, vx - vy >= 0);
            case '6' -> both(x, vy / 2, vy % 2 == 1);
            case '7' -> both(x, vy - vx, vy - vx >= 0);
            case 'E' -> both(x, vy * 2, vy >= 128);
            default -> {
                return false;
            }
        }
        return true;
    }

    private void both(int x, int value, boolean flag) {
        v[x] = Math.floorMod(value, 256);
        v[15] = flag ? 1 : 0;
    }

    private boolean eff(String kind, int x) {
        switch (kind) {
            case "07" -> v[x] = delay;
            case "0A" -> v[x] = least();
            case "15" -> delay = v[x];
            case "18" -> tone = v[x];
            case "1E" -> i = (i + v[x]) % 4096;
            case "29" -> i = v[x] % 16 * 5;
            case "33" -> {
                String text = String.format("%03d", v[x]);
                for (int k = 0; k < 3; k++) {
                    memory[(i + k) % 2048] = text.charAt(k) - '0';
                }
            }
            case "55", "65" -> {
                for (int k = 0; k <= x; k++) {
                    if (kind.equals("55")) {
                        memory[(i + k) % 2048] = v[k];
                    } else {
                        v[k] = memory[(i + k) % 2048];
                    }
                }
                i = (i + x + 1) % 4096;
            }
            default -> {
                return false;
            }
        }
        return true;
    }

    private void draw(int column, int row, int height) {
        boolean fell = false;
        for (int k = 0; k < height; k++) {
            int bits = memory[(i + k) % 2048];
            for (int b = 0; b < 8; b++) {
                boolean isSet = (bits & (128 >> b)) != 0;
                if (isSet && row + k < 32 && column + b < 64) {
                    int address = 1792 + (row + k) * 8 + (column + b) / 8;
                    int bit = 128 >> (column + b) % 8;
                    fell = fell || (memory[address] & bit) != 0;
                    memory[address] ^= bit;
                }
            }
        }
        v[15] = fell ? 1 : 0;
    }
}
