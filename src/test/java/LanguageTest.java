/** Promises 10, 11 and 12: chip, v and start, and every step of the language. */
public final class LanguageTest {
    private static final int I = 16;
    private static final int PC = 17;
    private static final int DEPTH = 18;
    private static final int DELAY = 19;
    private static final int TONE = 20;
    private static final int RANDOM = 21;

    private static final Check CHECK = new Check();

    public static void main(String[] args) {
        refusesWrongOnes();
        countsSteps();
        noInstructions();
        jumpsAndCalls();
        stackLimits();
        startAnew();
        skips();
        variables();
        flags();
        flagGoesLast();
        indexRegister();
        randomBytes();
        timers();
        waitsForKey();
        digits();
        savesAndLoads();
        clearsScreen();
        wrapsPc();
        CHECK.end();
    }

    private static VipBoard made(int... pairs) {
        VipBoard board = Check.chipProgram(pairs);
        CHECK.due("chip(" + pairs.length + ")", board.chip(pairs.length), pairs.length);
        return board;
    }

    private static void refusesWrongOnes() {
        VipBoard board = Check.chipProgram(0x6105);
        for (int n : new int[] {0, -1, 201, Integer.MAX_VALUE, Integer.MIN_VALUE}) {
            CHECK.throwsDue("chip(" + n + ")", Check.ILLEGAL_ARGUMENT, () -> board.chip(n));
        }
        for (int what : new int[] {-1, 22, Integer.MAX_VALUE, Integer.MIN_VALUE}) {
            CHECK.throwsDue("v(" + what + ")", Check.NO_SUCH, () -> board.v(what));
        }
        for (int pc : new int[] {-1, 2048, Integer.MAX_VALUE, Integer.MIN_VALUE}) {
            CHECK.throwsDue("start(" + pc + ")", Check.ILLEGAL_ARGUMENT, () -> board.start(pc));
        }
        CHECK.due("PC after refused calls", board.v(PC), 512);
        CHECK.due("V1 after refused calls", board.v(1), 0);
    }

    private static void countsSteps() {
        VipBoard board = Check.chipProgram(0x7101, 0x1200);
        CHECK.due("chip(1)", board.chip(1), 1);
        CHECK.due("V1", board.v(1), 1);
        CHECK.due("PC", board.v(PC), 514);
        CHECK.due("chip(200)", board.chip(200), 200);
        CHECK.due("V1 after 201 steps", board.v(1), 101);
        CHECK.due("PC after 201 steps", board.v(PC), 514);
    }

    /** At one that is none, the steps before are made and PC is that of the instruction. */
    private static void noInstructions() {
        int[] none = {
            0x0000, 0x00E1, 0x00EF, 0x01E0, 0x0FE0, 0x0200, 0x5121, 0x512F, 0x9121, 0x9128,
            0x8128, 0x8129, 0x812A, 0x812B, 0x812C, 0x812D, 0x812F, 0xE19F, 0xE1A0, 0xE100, 0xE19D,
            0xF100, 0xF108, 0xF10B, 0xF116, 0xF117, 0xF119, 0xF11F, 0xF128, 0xF130, 0xF134, 0xF154,
            0xF156, 0xF166, 0xF175, 0xF185, 0xF1FF,
        };
        for (int code : none) {
            String name = Integer.toHexString(code);
            VipBoard board = Check.chipProgram(0x6107, 0x6207, code);
            CHECK.throwsDue("chip(5) at " + name, Check.UNSUPPORTED, () -> board.chip(5));
            CHECK.due("PC at " + name, board.v(PC), 516);
            CHECK.due("V1 at " + name, board.v(1), 7);
            CHECK.due("V2 at " + name, board.v(2), 7);
            CHECK.due("V15 at " + name, board.v(15), 0);
            CHECK.due("I at " + name, board.v(I), 0);
            CHECK.throwsDue("chip(1) again at " + name, Check.UNSUPPORTED, () -> board.chip(1));
        }
    }

    private static void jumpsAndCalls() {
        CHECK.due("PC behind 1ABC", made(0x1ABC).v(PC), 0xABC);
        VipBoard board = made(0x2ABC);
        CHECK.due("PC behind 2ABC", board.v(PC), 0xABC);
        CHECK.due("depth behind 2ABC", board.v(DEPTH), 1);
        board = made(0x2202, 0x2204, 0x00EE);
        CHECK.due("PC behind 00EE", board.v(PC), 516);
        CHECK.due("depth behind 00EE", board.v(DEPTH), 1);
        CHECK.due("chip(1)", board.chip(1), 1);
        CHECK.due("PC behind 00EE again", board.v(PC), 514);
        CHECK.due("depth behind 00EE again", board.v(DEPTH), 0);
        CHECK.due("PC behind BABC", made(0x6044, 0xBABC).v(PC), 0xB00);
        CHECK.due("PC behind BFFF", made(0x60FF, 0xBFFF).v(PC), 0x0FE);
    }

    private static void stackLimits() {
        VipBoard board = Check.chipProgram(0x2200);
        CHECK.due("chip(12)", board.chip(12), 12);
        CHECK.due("depth", board.v(DEPTH), 12);
        CHECK.throwsDue("chip(1) with a full stack", Check.ILLEGAL_STATE, () -> board.chip(1));
        CHECK.due("PC with a full stack", board.v(PC), 512);
        CHECK.due("depth of a full stack", board.v(DEPTH), 12);
        VipBoard deep = Check.chipProgram(0x2204, 0x0000, 0x7101, 0x2204);
        CHECK.throwsDue("chip(200) until the stack is full", Check.ILLEGAL_STATE, () -> deep.chip(200));
        CHECK.due("V1 behind the steps before", deep.v(1), 12);
        CHECK.due("PC then", deep.v(PC), 518);
        VipBoard empty = Check.chipProgram(0x6105, 0x00EE);
        CHECK.throwsDue("chip(2) with an empty stack", Check.ILLEGAL_STATE, () -> empty.chip(2));
        CHECK.due("PC with an empty stack", empty.v(PC), 514);
        CHECK.due("V1 with an empty stack", empty.v(1), 5);
        CHECK.due("depth of an empty stack", empty.v(DEPTH), 0);
        Check.pokePairs(board, 512, 0x00EE);
        Check.pokePairs(board, 514, 0x00EE);
        CHECK.due("chip(12) back", board.chip(12), 12);
        CHECK.due("depth back", board.v(DEPTH), 0);
        CHECK.due("PC back", board.v(PC), 514);
    }

    private static void startAnew() {
        VipBoard board = made(0x6309, 0x2300);
        board.start(2047);
        CHECK.due("PC", board.v(PC), 2047);
        CHECK.due("depth", board.v(DEPTH), 0);
        CHECK.due("V3", board.v(3), 9);
        board.poke(2047, 0x64);
        board.poke(0, 0x21);
        CHECK.due("chip(1) at the last address", board.chip(1), 1);
        CHECK.due("V4", board.v(4), 0x21);
        CHECK.due("PC behind it", board.v(PC), 2049);
        board.start(0);
        CHECK.due("PC", board.v(PC), 0);
    }

    private static void skip(boolean goes, int... pairs) {
        VipBoard board = made(pairs);
        String name = Integer.toHexString(pairs[pairs.length - 1]);
        CHECK.due("PC behind " + name, board.v(PC), 512 + 2 * pairs.length + (goes ? 2 : 0));
    }

    private static void skips() {
        skip(true, 0x6133, 0x3133);
        skip(false, 0x6133, 0x3132);
        skip(false, 0x6133, 0x4133);
        skip(true, 0x6133, 0x4132);
        skip(true, 0x6133, 0x6233, 0x5120);
        skip(false, 0x6133, 0x6234, 0x5120);
        skip(false, 0x6133, 0x6233, 0x9120);
        skip(true, 0x6133, 0x6234, 0x9120);
        skip(false, 0x6133, 0xE19E);
        skip(true, 0x6133, 0xE1A1);
    }

    private static void variables() {
        for (int n = 0; n < 16; n++) {
            VipBoard board = made(0x60A5 + 256 * n);
            for (int other = 0; other < 16; other++) {
                CHECK.due("V" + other, board.v(other), other == n ? 0xA5 : 0);
            }
        }
        CHECK.due("7xnn", made(0x6110, 0x7120).v(1), 0x30);
        VipBoard board = made(0x6F07, 0x61F0, 0x7120);
        CHECK.due("7xnn that wraps", board.v(1), 0x10);
        CHECK.due("V15 behind 7xnn", board.v(15), 7);
        int[] want = {0x53, 0x77, 0x11, 0x66};
        for (int n = 0; n < 4; n++) {
            board = made(0x6F07, 0x6135, 0x6253, 0x8120 + n);
            CHECK.due("812" + n, board.v(1), want[n]);
            CHECK.due("V2 behind 812" + n, board.v(2), 0x53);
            CHECK.due("V15 behind 812" + n, board.v(15), 7);
        }
    }

    private static void flagged(int n, int v1, int v2, int want, int wantFlag) {
        VipBoard board = made(0x6F07, 0x6100 + v1, 0x6200 + v2, 0x8120 + n);
        String name = "812" + Integer.toHexString(n) + " of " + v1 + " and " + v2;
        CHECK.due("V1 behind " + name, board.v(1), want);
        CHECK.due("V2 behind " + name, board.v(2), v2);
        CHECK.due("V15 behind " + name, board.v(15), wantFlag);
    }

    private static void flags() {
        flagged(4, 200, 55, 255, 0);
        flagged(4, 200, 56, 0, 1);
        flagged(4, 255, 255, 254, 1);
        flagged(5, 9, 4, 5, 1);
        flagged(5, 4, 4, 0, 1);
        flagged(5, 4, 9, 251, 0);
        flagged(7, 9, 4, 251, 0);
        flagged(7, 4, 4, 0, 1);
        flagged(7, 4, 9, 5, 1);
        flagged(6, 0, 0x81, 0x40, 1);
        flagged(6, 255, 0x80, 0x40, 0);
        flagged(14, 0, 0x81, 0x02, 1);
        flagged(14, 255, 0x7F, 0xFE, 0);
        flagged(14, 255, 0x80, 0x00, 1);
    }

    private static void flagGoesLast() {
        CHECK.due("8F14 with a carry", made(0x6FF0, 0x6120, 0x8F14).v(15), 1);
        CHECK.due("8F14 without", made(0x6F10, 0x6120, 0x8F14).v(15), 0);
        CHECK.due("8F15", made(0x6F10, 0x6120, 0x8F15).v(15), 0);
        CHECK.due("8F17", made(0x6F10, 0x6120, 0x8F17).v(15), 1);
        CHECK.due("8F16", made(0x6121, 0x8F16).v(15), 1);
        CHECK.due("8F1E", made(0x6121, 0x8F1E).v(15), 0);
        VipBoard board = made(0x6110, 0x6FF5, 0x81F4);
        CHECK.due("V1 behind 81F4", board.v(1), 5);
        CHECK.due("V15 behind 81F4", board.v(15), 1);
        board = made(0x6110, 0x6F03, 0x81F6);
        CHECK.due("V1 behind 81F6", board.v(1), 1);
        CHECK.due("V15 behind 81F6", board.v(15), 1);
    }

    private static void indexRegister() {
        CHECK.due("I behind AFED", made(0xAFED).v(I), 0xFED);
        VipBoard board = made(0x6F07, 0x6113, 0xAFED, 0xF11E);
        CHECK.due("I behind F11E", board.v(I), 0);
        CHECK.due("V15 behind F11E", board.v(15), 7);
        CHECK.due("I behind F11E", made(0x61FF, 0xA0FF, 0xF11E).v(I), 0x1FE);
        CHECK.due("I behind F129", made(0x610F, 0xF129).v(I), 75);
        CHECK.due("I behind F129 of 37", made(0x6137, 0xF129).v(I), 35);
    }

    private static void randomBytes() {
        VipBoard board = Check.chipProgram(0xC1FF, 0x1200);
        int random = 0;
        for (int k = 0; k < 20; k++) {
            board.chip(1);
            random = (5 * random + 1) % 256;
            CHECK.due("V1 behind C1FF", board.v(1), random);
            CHECK.due("RANDOM", board.v(RANDOM), random);
            board.chip(1);
        }
        board = made(0xC1FF, 0xC1FF, 0xC1FF, 0xC2F0, 0xC30F);
        CHECK.due("V1", board.v(1), 31);
        CHECK.due("V2", board.v(2), 156 & 0xF0);
        CHECK.due("V3", board.v(3), 781 & 0x0F);
        CHECK.due("RANDOM", board.v(RANDOM), 781 & 255);
    }

    private static void timers() {
        VipBoard board = made(0x61F5, 0x6206, 0xF115, 0xF218, 0xF307);
        CHECK.due("DELAY", board.v(DELAY), 0xF5);
        CHECK.due("TONE", board.v(TONE), 6);
        CHECK.due("V3", board.v(3), 0xF5);
        board = made(0x6103, 0xF118, 0x6205, 0xF207);
        CHECK.due("V2 behind F207", board.v(2), 0);
        CHECK.due("TONE", board.v(TONE), 3);
    }

    private static void waitsForKey() {
        VipBoard board = Check.chipProgram(0x6133, 0xF10A, 0x6205);
        CHECK.due("chip(9) with no key", board.chip(9), 1);
        CHECK.due("PC with no key", board.v(PC), 514);
        CHECK.due("V1 with no key", board.v(1), 0x33);
        CHECK.due("chip(9) again", board.chip(9), 0);
        board.key(15, true);
        board.key(4, true);
        board.key(9, true);
        CHECK.due("chip(2) with keys", board.chip(2), 2);
        CHECK.due("V1 with keys", board.v(1), 4);
        CHECK.due("V2 behind it", board.v(2), 5);
        board.start(514);
        board.key(4, false);
        board.key(0, true);
        board.chip(1);
        CHECK.due("V1 with key 0", board.v(1), 0);
        board.start(514);
        board.key(0, false);
        board.key(9, false);
        board.chip(1);
        CHECK.due("V1 with key 15", board.v(1), 15);
    }

    private static void digits() {
        int[][] rows = {{0, 0, 0, 0}, {9, 0, 0, 9}, {10, 0, 1, 0}, {99, 0, 9, 9}, {100, 1, 0, 0}, {255, 2, 5, 5}};
        for (int[] row : rows) {
            VipBoard board = made(0xA7FE, 0x6100 + row[0], 0xF133);
            CHECK.due("the first digit of " + row[0], board.peek(2046), row[1]);
            CHECK.due("the second digit of " + row[0], board.peek(2047), row[2]);
            CHECK.due("the third digit of " + row[0], board.peek(0), row[3]);
            CHECK.due("I behind F133", board.v(I), 0x7FE);
        }
    }

    private static void savesAndLoads() {
        VipBoard board = made(0x60AA, 0x61BB, 0x62CC, 0x63DD, 0xA7FE, 0xF255);
        CHECK.due("the byte at I", board.peek(2046), 0xAA);
        CHECK.due("the byte at I + 1", board.peek(2047), 0xBB);
        CHECK.due("the byte at I + 2", board.peek(0), 0xCC);
        CHECK.due("the byte behind", board.peek(1), 0);
        CHECK.due("I behind F255", board.v(I), 0x801);
        board = made(0xAFFF, 0xF055);
        CHECK.due("I behind F055", board.v(I), 0);
        board = Check.chipProgram(0x6311, 0xA7FF, 0xF265);
        board.poke(2047, 1);
        board.poke(0, 2);
        board.poke(1, 3);
        board.poke(2, 4);
        board.chip(3);
        for (int n = 0; n < 4; n++) {
            CHECK.due("V" + n + " behind F265", board.v(n), n == 3 ? 0x11 : n + 1);
        }
        CHECK.due("I behind F265", board.v(I), 0x802);
        board = Check.chipProgram(0x6F66, 0xA300, 0xF055, 0xF065);
        board.poke(0x2FF, 0x77);
        board.chip(4);
        CHECK.due("the byte before I", board.peek(0x2FF), 0x77);
        CHECK.due("V15 behind F065", board.v(15), 0x66);
        board = Check.chipProgram(0xA300, 0xFF65, 0xFF55);
        for (int k = 0; k < 16; k++) {
            board.poke(0x300 + k, 0xE0 + k);
        }
        board.chip(3);
        for (int n = 0; n < 16; n++) {
            CHECK.due("V" + n + " behind FF65", board.v(n), 0xE0 + n);
            CHECK.due("saved V" + n, board.peek(0x310 + n), 0xE0 + n);
        }
        CHECK.due("I behind both", board.v(I), 0x320);
    }

    private static void clearsScreen() {
        VipBoard board = Check.chipProgram(0x6F07, 0x00E0);
        for (int address = 1791; address < 2048; address++) {
            board.poke(address, 0xFF);
        }
        board.poke(0, 0x12);
        board.chip(2);
        for (int address = 1792; address < 2024; address++) {
            CHECK.due("peek(" + address + ")", board.peek(address), 0);
        }
        CHECK.due("peek(2047)", board.peek(2047), 0);
        CHECK.due("peek(1791)", board.peek(1791), 0xFF);
        CHECK.due("peek(0)", board.peek(0), 0x12);
        CHECK.due("V15", board.v(15), 7);
    }

    private static void wrapsPc() {
        VipBoard board = made(0x1FFE);
        Check.pokePairs(board, 2046, 0x6142);
        CHECK.due("chip(1) at 0xFFE", board.chip(1), 1);
        CHECK.due("V1", board.v(1), 0x42);
        CHECK.due("PC", board.v(PC), 0);
        board = made(0x1FFE);
        Check.pokePairs(board, 2046, 0x3100);
        board.chip(1);
        CHECK.due("PC behind a skip at 0xFFE", board.v(PC), 2);
        board = made(0x1A00);
        Check.pokePairs(board, 0x200, 0x6143);
        CHECK.due("chip(1) at 0xA00", board.chip(1), 1);
        CHECK.due("V1", board.v(1), 0x43);
        CHECK.due("PC", board.v(PC), 0xA02);
        board = made(0x1FFE);
        Check.pokePairs(board, 2046, 0x2300);
        Check.pokePairs(board, 0x300, 0x00EE);
        board.chip(2);
        CHECK.due("PC behind a call at 0xFFE", board.v(PC), 0);
    }
}
