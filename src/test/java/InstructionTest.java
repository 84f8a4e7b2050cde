/**
 * Promise 7 with the table of instructions: each is run alone, with P 3 and R3 0x130, X 5 and
 * R5 0x240, R7 0x8F50, the next bytes 0x64 0x99, and T 0x5A, unless a row says otherwise.
 */
public final class InstructionTest {
    private static final int RP = 0x130;
    private static final int RX = 0x240;
    private static final int R7 = 0x8F50;
    private static final int NEXT = 0x64;
    private static final int NEXT_PAIR = 0x6499;

    private static final Check CHECK = new Check();

    public static void main(String[] args) {
        registers();
        memoryByRegisters();
        halvesOfRegisters();
        branches();
        linesOfBranches();
        longBranchesAndSkips();
        ports();
        control();
        sums();
        differences();
        logic();
        shifts();
        wraps();
        programCounterAsOperand();
        CHECK.end();
    }

    /** A board just before the instruction. */
    private static VipBoard ready(int code, int d, int df, int atX) {
        VipBoard board = new VipBoard();
        Check.pokeAll(board, RP, code, NEXT, NEXT_PAIR & 255);
        board.poke(RX, atX);
        board.set(18, 3);
        board.set(3, RP);
        board.set(19, 5);
        board.set(5, RX);
        board.set(7, R7);
        board.poke(R7 & 2047, 0xC3);
        board.set(16, d);
        board.set(17, df);
        board.set(20, 0x5A);
        return board;
    }

    private static VipBoard done(int code, int d, int df, int atX) {
        VipBoard board = ready(code, d, df, atX);
        act(board, code);
        return board;
    }

    private static void act(VipBoard board, int code) {
        CHECK.due(name(code, "run(1)"), board.run(1), code >> 4 == 12 ? 3 : 2);
    }

    private static String name(int code, String what) {
        return Integer.toHexString(code) + ": " + what;
    }

    private static void state(VipBoard board, int code, int d, int df, int rp, int rx) {
        CHECK.due(name(code, "D"), board.cpu(16), d);
        CHECK.due(name(code, "DF"), board.cpu(17), df);
        CHECK.due(name(code, "RP"), board.cpu(3), rp);
        CHECK.due(name(code, "RX"), board.cpu(5), rx);
    }

    /** D and DF after an operation between D and M(X), and after the same with the next byte. */
    private static void operation(int code, int other, int d, int df, int wantD, int wantDf) {
        VipBoard board = done(code, d, df, other);
        state(board, code, wantD, wantDf, RP + 1, RX);
        CHECK.due(name(code, "M(X)"), board.peek(RX), other);
        VipBoard immediate = ready(code + 8, d, df, 0x11);
        immediate.poke(RP + 1, other);
        act(immediate, code + 8);
        state(immediate, code + 8, wantD, wantDf, RP + 2, RX);
        CHECK.due(name(code + 8, "M(X)"), immediate.peek(RX), 0x11);
    }

    private static void registers() {
        for (int n = 0; n < 16; n++) {
            int before = n == 3 ? RP + 1 : n == 5 ? RX : n == 7 ? R7 : 0;
            CHECK.due(name(0x10 + n, "RN"), done(0x10 + n, 1, 0, 9).cpu(n), before + 1);
            CHECK.due(name(0x20 + n, "RN"), done(0x20 + n, 1, 0, 9).cpu(n), before - 1 & 65535);
            CHECK.due(name(0xD0 + n, "P"), done(0xD0 + n, 1, 0, 9).cpu(18), n);
            CHECK.due(name(0xE0 + n, "X"), done(0xE0 + n, 1, 0, 9).cpu(19), n);
        }
    }

    private static void memoryByRegisters() {
        VipBoard board = done(0x07, 1, 1, 9);
        state(board, 0x07, 0xC3, 1, RP + 1, RX);
        CHECK.due("07: R7", board.cpu(7), R7);
        board = done(0x47, 1, 0, 9);
        state(board, 0x47, 0xC3, 0, RP + 1, RX);
        CHECK.due("47: R7", board.cpu(7), R7 + 1);
        board = done(0x57, 0xE1, 0, 9);
        state(board, 0x57, 0xE1, 0, RP + 1, RX);
        CHECK.due("57: R7", board.cpu(7), R7);
        CHECK.due("57: M(7), whose address counts by 11 bits", board.peek(R7 & 2047), 0xE1);
        board = done(0x50, 0xE2, 0, 9);
        CHECK.due("50: M(0)", board.peek(0), 0xE2);
        board = done(0x40, 0xE2, 0, 9);
        CHECK.due("40: R0", board.cpu(0), 1);
        board = done(0x00, 0x12, 1, 9);
        state(board, 0x00, 0x12, 1, RP + 1, RX);
        CHECK.due("00: IDLE", board.cpu(23), 1);
        CHECK.due("00: run(5) behind it", board.run(5), 5);
        state(board, 0x00, 0x12, 1, RP + 1, RX);
    }

    private static void halvesOfRegisters() {
        CHECK.due("87: D", done(0x87, 1, 0, 9).cpu(16), 0x50);
        CHECK.due("97: D", done(0x97, 1, 0, 9).cpu(16), 0x8F);
        CHECK.due("87: R7", done(0x87, 1, 0, 9).cpu(7), R7);
        CHECK.due("A7: R7", done(0xA7, 0xEE, 0, 9).cpu(7), 0x8FEE);
        CHECK.due("B7: R7", done(0xB7, 0xEE, 0, 9).cpu(7), 0xEE50);
        VipBoard odd = ready(0xB7, 0xEF, 0, 9);
        odd.set(7, 0xFFFF);
        act(odd, 0xB7);
        CHECK.due("B7: R7 from FFFF", odd.cpu(7), 0xEFFF);
        CHECK.due("A7: D", done(0xA7, 0xEE, 0, 9).cpu(16), 0xEE);
        CHECK.due("83: D, RP having grown", done(0x83, 1, 0, 9).cpu(16), 0x31);
        CHECK.due("A3: RP", done(0xA3, 0xEE, 0, 9).cpu(3), 0x1EE);
    }

    private static void branch(int n, int d, int df, int q, boolean taken) {
        for (int opposite = 0; opposite < 2; opposite++) {
            int code = 0x30 + n + 8 * opposite;
            VipBoard board = ready(code, d, df, 9);
            board.set(22, q);
            act(board, code);
            boolean goes = taken == (opposite == 0);
            state(board, code, d, df, goes ? 0x100 + NEXT : RP + 2, RX);
        }
    }

    private static void branches() {
        branch(0, 0, 0, 0, true);
        branch(1, 1, 1, 0, false);
        branch(1, 0, 0, 1, true);
        branch(2, 0, 0, 0, true);
        branch(2, 128, 1, 1, false);
        branch(3, 0, 0, 1, false);
        branch(3, 1, 1, 0, true);
        for (int line = 4; line <= 7; line++) {
            branch(line, 0, 1, 1, false);
        }
        // The low byte is replaced in the page of the next byte, not in that of the instruction.
        VipBoard board = new VipBoard();
        Check.pokeAll(board, 0xFF, 0x30, 0x20);
        board.set(0, 0xFF);
        board.run(1);
        CHECK.due("30 at the end of a page", board.cpu(0), 0x120);
    }

    private static void linesOfBranches() {
        for (int asked = 0; asked < 16; asked++) {
            for (int down = 0; down < 16; down += 5) {
                VipBoard board = ready(0x62, 0, 0, 0xA0 + asked);
                board.key(down, true);
                board.poke(RP + 1, 0x36);
                board.poke(RP + 2, 0x80);
                CHECK.due("62 and 36", board.run(4), 4);
                CHECK.due("video(5)", board.video(5), asked);
                CHECK.due("36 with key " + down, board.cpu(3), asked == down ? 0x180 : RP + 3);
            }
        }
        VipBoard board = ready(0x36, 0, 0, 9);
        board.key(0, true);
        act(board, 0x36);
        CHECK.due("36 with key 0, which is asked at first", board.cpu(3), 0x100 + NEXT);
        for (int code : new int[] {0x35, 0x37}) {
            board = ready(code, 0, 0, 9);
            for (int k = 0; k < 16; k++) {
                board.key(k, true);
            }
            act(board, code);
            CHECK.due(name(code, "RP with every key down"), board.cpu(3), RP + 2);
        }
    }

    private static void far(int n, int d, int df, int q, int ie, int wantRp) {
        VipBoard board = ready(0xC0 + n, d, df, 9);
        board.set(22, q);
        board.set(21, ie);
        act(board, 0xC0 + n);
        state(board, 0xC0 + n, d, df, wantRp, RX);
    }

    private static void longBranchesAndSkips() {
        int there = NEXT_PAIR;
        int on = RP + 1;
        int beyond = RP + 3;
        far(0, 1, 0, 0, 0, there);
        far(1, 0, 1, 0, 1, beyond);
        far(1, 1, 0, 1, 0, there);
        far(2, 1, 1, 1, 1, beyond);
        far(2, 0, 0, 0, 0, there);
        far(3, 0, 0, 1, 1, beyond);
        far(3, 1, 1, 0, 0, there);
        far(4, 0, 1, 1, 1, on);
        far(4, 1, 0, 0, 0, on);
        far(5, 1, 1, 0, 0, beyond);
        far(5, 0, 0, 1, 1, on);
        far(6, 1, 1, 1, 0, beyond);
        far(6, 0, 0, 0, 1, on);
        far(7, 0, 0, 1, 0, beyond);
        far(7, 1, 1, 0, 1, on);
        far(8, 0, 0, 0, 0, beyond);
        far(8, 1, 1, 1, 1, beyond);
        far(9, 1, 0, 0, 0, there);
        far(9, 0, 1, 1, 1, beyond);
        far(10, 1, 0, 0, 0, there);
        far(10, 0, 1, 1, 1, beyond);
        far(11, 0, 0, 1, 1, there);
        far(11, 1, 1, 0, 0, beyond);
        far(12, 1, 1, 1, 0, on);
        far(12, 0, 0, 0, 1, beyond);
        far(13, 1, 1, 0, 1, on);
        far(13, 0, 0, 1, 0, beyond);
        far(14, 1, 1, 1, 1, on);
        far(14, 0, 0, 0, 0, beyond);
        far(15, 1, 0, 1, 1, on);
        far(15, 0, 1, 0, 0, beyond);
    }

    private static void ports() {
        state(done(0x60, 1, 0, 9), 0x60, 1, 0, RP + 1, RX + 1);
        for (int n = 1; n < 8; n++) {
            VipBoard board = done(0x60 + n, 1, 1, 0xF6);
            state(board, 0x60 + n, 1, 1, RP + 1, RX + 1);
            CHECK.due(name(0x60 + n, "M(X)"), board.peek(RX), 0xF6);
            CHECK.due(name(0x60 + n, "video(5)"), board.video(5), n == 2 ? 6 : 0);
            CHECK.due(name(0x60 + n, "video(0)"), board.video(0), 0);
        }
        VipBoard quiet = done(0x68, 1, 1, 9);
        state(quiet, 0x68, 1, 1, RP + 1, RX);
        CHECK.due("68: M(X)", quiet.peek(RX), 9);
        for (int n = 9; n < 16; n++) {
            VipBoard board = done(0x60 + n, 1, 1, 9);
            state(board, 0x60 + n, 0, 1, RP + 1, RX);
            CHECK.due(name(0x60 + n, "M(X)"), board.peek(RX), 0);
            CHECK.due(name(0x60 + n, "video(0)"), board.video(0), n == 9 ? 1 : 0);
        }
        VipBoard board = ready(0x69, 1, 1, 9);
        Check.pokeAll(board, RP + 1, 0x62, 0x6A, 0x61);
        for (int on : new int[] {1, 1, 1, 0}) {
            board.run(1);
            CHECK.due("video(0) on the way through 69 62 6A 61", board.video(0), on);
        }
    }

    private static void control() {
        for (int n = 0; n < 2; n++) {
            VipBoard board = ready(0x70 + n, 7, 1, 0xBF);
            board.set(21, n);
            act(board, 0x70 + n);
            state(board, 0x70 + n, 7, 1, RP + 1, RX + 1);
            CHECK.due(name(0x70 + n, "X"), board.cpu(19), 0xB);
            CHECK.due(name(0x70 + n, "P"), board.cpu(18), 0xF);
            CHECK.due(name(0x70 + n, "IE"), board.cpu(21), 1 - n);
        }
        state(done(0x72, 7, 1, 0xB2), 0x72, 0xB2, 1, RP + 1, RX + 1);
        VipBoard board = done(0x73, 7, 1, 0xB2);
        state(board, 0x73, 7, 1, RP + 1, RX - 1);
        CHECK.due("73: M(X before)", board.peek(RX), 7);
        board = done(0x78, 7, 1, 0xB2);
        state(board, 0x78, 7, 1, RP + 1, RX);
        CHECK.due("78: M(X)", board.peek(RX), 0x5A);
        board = ready(0x79, 7, 1, 0xB2);
        board.set(2, 0x300);
        act(board, 0x79);
        state(board, 0x79, 7, 1, RP + 1, RX);
        CHECK.due("79: T", board.cpu(20), 0x53);
        CHECK.due("79: M(2 before)", board.peek(0x300), 0x53);
        CHECK.due("79: X", board.cpu(19), 3);
        CHECK.due("79: P", board.cpu(18), 3);
        CHECK.due("79: R2", board.cpu(2), 0x2FF);
        for (int q = 0; q < 2; q++) {
            board = ready(0x7A + q, 7, 1, 0xB2);
            board.set(22, 1 - q);
            act(board, 0x7A + q);
            state(board, 0x7A + q, 7, 1, RP + 1, RX);
            CHECK.due(name(0x7A + q, "Q"), board.cpu(22), q);
        }
    }

    private static void sums() {
        operation(0xF4, 100, 100, 1, 200, 0);
        operation(0xF4, 200, 100, 0, 44, 1);
        operation(0xF4, 255, 1, 0, 0, 1);
        operation(0xF4, 255, 0, 1, 255, 0);
        operation(0x74, 100, 100, 1, 201, 0);
        operation(0x74, 100, 100, 0, 200, 0);
        operation(0x74, 255, 0, 1, 0, 1);
        operation(0x74, 255, 255, 1, 255, 1);
    }

    private static void differences() {
        operation(0xF5, 9, 4, 0, 5, 1);
        operation(0xF5, 4, 9, 1, 251, 0);
        operation(0xF5, 4, 4, 0, 0, 1);
        operation(0xF7, 9, 4, 1, 251, 0);
        operation(0xF7, 4, 9, 0, 5, 1);
        operation(0xF7, 4, 4, 0, 0, 1);
        operation(0x75, 9, 4, 1, 5, 1);
        operation(0x75, 9, 4, 0, 4, 1);
        operation(0x75, 4, 4, 0, 255, 0);
        operation(0x75, 0, 255, 0, 0, 0);
        operation(0x77, 4, 9, 1, 5, 1);
        operation(0x77, 4, 9, 0, 4, 1);
        operation(0x77, 4, 4, 0, 255, 0);
        operation(0x77, 9, 4, 1, 251, 0);
    }

    private static void logic() {
        operation(0xF0, 0x35, 0x53, 1, 0x35, 1);
        operation(0xF1, 0x35, 0x53, 0, 0x77, 0);
        operation(0xF2, 0x35, 0x53, 1, 0x11, 1);
        operation(0xF3, 0x35, 0x53, 0, 0x66, 0);
    }

    private static void shift(int code, int d, int df, int wantD, int wantDf) {
        state(done(code, d, df, 9), code, wantD, wantDf, RP + 1, RX);
    }

    private static void shifts() {
        shift(0xF6, 0x81, 1, 0x40, 1);
        shift(0xF6, 0x80, 1, 0x40, 0);
        shift(0xFE, 0x81, 1, 0x02, 1);
        shift(0xFE, 0x41, 1, 0x82, 0);
        shift(0x76, 0x81, 1, 0xC0, 1);
        shift(0x76, 0x81, 0, 0x40, 1);
        shift(0x76, 0x80, 1, 0xC0, 0);
        shift(0x7E, 0x81, 1, 0x03, 1);
        shift(0x7E, 0x81, 0, 0x02, 1);
        shift(0x7E, 0x41, 1, 0x83, 0);
    }

    private static void wraps() {
        VipBoard board = ready(0x17, 1, 0, 9);
        board.set(7, 65535);
        act(board, 0x17);
        CHECK.due("17: R7 from 65535", board.cpu(7), 0);
        board = ready(0x73, 0x31, 0, 9);
        board.set(5, 0);
        act(board, 0x73);
        CHECK.due("73: R5 from 0", board.cpu(5), 65535);
        CHECK.due("73: M(5) with R5 0", board.peek(0), 0x31);
        board = new VipBoard();
        Check.pokeAll(board, 2047, 0xF8);
        board.poke(0, 0x42);
        board.set(0, 65535);
        CHECK.due("F8 at 65535: run(1)", board.run(1), 2);
        CHECK.due("F8 at 65535: D", board.cpu(16), 0x42);
        CHECK.due("F8 at 65535: R0", board.cpu(0), 1);
        board = new VipBoard();
        Check.pokeAll(board, 2046, 0xC0, 0x12);
        board.poke(0, 0x34);
        board.set(0, 0xF7FE);
        CHECK.due("C0 at F7FE: run(1)", board.run(1), 3);
        CHECK.due("C0 at F7FE: R0", board.cpu(0), 0x1234);
    }

    /** RP has grown before the instruction looks at it as M(X) or M(N). */
    private static void programCounterAsOperand() {
        VipBoard board = done(0x43, 1, 0, 9);
        CHECK.due("43: D", board.cpu(16), NEXT);
        CHECK.due("43: RP", board.cpu(3), RP + 2);
        board = ready(0x62, 1, 0, 9);
        board.set(19, 3);
        act(board, 0x62);
        CHECK.due("62 with X = P: video(5)", board.video(5), NEXT & 15);
        CHECK.due("62 with X = P: RP", board.cpu(3), RP + 2);
        board = ready(0x70, 1, 0, 9);
        board.set(19, 3);
        act(board, 0x70);
        CHECK.due("70 with X = P: X", board.cpu(19), NEXT >> 4);
        CHECK.due("70 with X = P: P", board.cpu(18), NEXT & 15);
        CHECK.due("70 with X = P: R3", board.cpu(3), RP + 2);
    }
}
