/** THE PROCESSOR: its parts, and the instructions with I 0 to 6, 8 to 11, 13 and 14. */
final class ProcessorEdges {
    private static final String PART = "THE PROCESSOR";

    private ProcessorEdges() {
    }

    static void all(Edges edges) {
        parts(edges);
        edges.says(PART, "0: N 0: IDLE;", ProcessorEdges::idle);
        edges.says(PART, "otherwise D becomes M(N).", ProcessorEdges::load);
        edges.says(PART, "1: RN grows by 1.", ProcessorEdges::grow);
        edges.says(PART, "2: RN falls by 1.", ProcessorEdges::fall);
        edges.says(PART, "4: D becomes M(N), RN grows by 1.", ProcessorEdges::loadAndGrow);
        edges.says(PART, "5: M(N) becomes D.", ProcessorEdges::store);
        edges.says(PART, "8, 9: D becomes the low, the high byte of RN.", ProcessorEdges::halves);
        edges.says(PART, "10, 11: that of RN becomes D.", ProcessorEdges::putHalves);
        edges.says(PART, "13: P becomes N.", ProcessorEdges::setP);
        edges.says(PART, "14: X becomes N.", ProcessorEdges::setX);
        edges.says(PART, "3: a BRANCH: if its condition holds, the low byte of RP becomes the next byte;",
                ProcessorEdges::branchTaken);
        edges.says(PART, "otherwise RP grows by 1.", ProcessorEdges::branchNotTaken);
        edges.says(PART, "Conditions: N 0 always; 1 Q is 1; 2 D is 0; 3 DF is 1;", ProcessorEdges::conditions);
        edges.says(PART, "4 to 7 the line EF1 to EF4 is on;", ProcessorEdges::lines);
        edges.says(PART, "N from 8 on: the opposite of N - 8.", ProcessorEdges::opposites);
        edges.says(PART, "6: N 0: RX grows by 1.", ProcessorEdges::growX);
        edges.says(PART, "1 to 7: OUT: M(X) goes to port N, RX grows by 1.", ProcessorEdges::out);
        edges.says(PART, "8: nothing.", ProcessorEdges::sixtyEight);
        edges.says(PART, "9 to 15: IN: M(X) and D become 0 (port N - 8 is asked).", ProcessorEdges::in);
    }

    private static void parts(Edges edges) {
        edges.says(PART, "THE PROCESSOR has registers R0 .. R15 of 16 bits,", ProcessorEdges::registers);
        edges.says(PART, "D of 8,", check -> holds(check, "D", 16, 255));
        edges.says(PART, "DF, P and X (0 .. 15), T of 8, IE, Q:", ProcessorEdges::otherParts);
        edges.says(PART, "all 0 at first, but IE is 1.", ProcessorEdges::atFirst);
        edges.says(PART, "M(n) is the byte at Rn.", ProcessorEdges::byteAtRegister);
        edges.says(PART, "Numbers wrap in 16 or 8 bits.", ProcessorEdges::wrapsInSixteen);
        edges.says(PART, "Numbers wrap in 16 or 8 bits.", ProcessorEdges::programCounterWraps);
        edges.says(PART, "Numbers wrap in 16 or 8 bits.", ProcessorEdges::wrapsInEight);
        edges.says(PART, "An INSTRUCTION is the byte at RP, 16 * I + N;", ProcessorEdges::instruction);
        edges.says(PART, "RP grows by 1 first;", ProcessorEdges::growsFirst);
        edges.says(PART, "the NEXT byte is that at RP then. By I:", ProcessorEdges::nextByte);
        edges.says(PART, "An instruction takes 2 CYCLES, with I 12 three.", ProcessorEdges::cycles);
        edges.says(PART, "When it is IDLE it does nothing for 1 cycle at a time (in place of an instruction).",
                ProcessorEdges::idleCycles);
    }

    /** It keeps its least and its most, and no other part changes with it. */
    private static void holds(Check check, String name, int what, int most) {
        for (int value : new int[] {most, 0, most / 2 + 1}) {
            Board board = new Board();
            board.set(what, most - value);
            check.changes("set(" + what + ", " + value + ")", board, () -> board.set(what, value), name + "=" + value);
        }
    }

    private static void registers(Check check) {
        for (int n = 0; n < 16; n++) {
            holds(check, "R" + n, n, 65535);
        }
    }

    private static void otherParts(Check check) {
        holds(check, "DF", 17, 1);
        holds(check, "P", 18, 15);
        holds(check, "X", 19, 15);
        holds(check, "T", 20, 255);
        holds(check, "IE", 21, 1);
        holds(check, "Q", 22, 1);
    }

    private static void atFirst(Check check) {
        Board board = new Board();
        for (int what = 0; what <= 23; what++) {
            check.due("cpu(" + what + ")", board.cpu(what), what == 21 ? 1 : 0);
        }
    }

    private static void byteAtRegister(Check check) {
        for (int n = 1; n < 16; n++) {
            if (n != 3) {
                Turn.op(check, n, "R" + n + "=0x300 M0x2FF=1 M0x300=2 M0x301=3", "D=2");
            }
        }
        Turn.op(check, 0x03, "M0x131=0x77", "D=0x77");
    }

    private static void wrapsInSixteen(Check check) {
        Turn.op(check, 0x17, "R7=65534", "R7=65535");
        Turn.op(check, 0x17, "R7=65535", "R7=0");
        Turn.op(check, 0x27, "R7=1", "R7=0");
        Turn.op(check, 0x27, "R7=0", "R7=65535");
        Turn.op(check, 0x47, "R7=65535 M2047=8", "R7=0 D=8");
        Turn.op(check, 0x60, "R5=65535", "R5=0");
        Turn.op(check, 0x63, "R5=65535", "R5=0");
        Turn.op(check, 0x70, "R5=65535 M2047=0x53", "R5=0");
        Turn.op(check, 0x72, "R5=65535 M2047=8", "R5=0 D=8");
        Turn.op(check, 0x73, "R5=0 D=8", "R5=65535 M0=8");
        Turn.op(check, 0x79, "R2=0", "R2=65535 M0=0x53 T=0x53 X=3");
    }

    private static void programCounterWraps(Check check) {
        Turn.act(check, 2, "R0=65535 M2047=0x68", "R0=0");
        Turn.act(check, 2, "R0=65534 M2046=0xF8 M2047=8", "R0=0 D=8");
        Turn.act(check, 2, "R0=65534 M2046=0x38", "R0=0");
        Turn.act(check, 3, "R0=65533 M2045=0xC8", "R0=0");
        Turn.act(check, 3, "R0=65534 M2046=0xC8", "R0=1");
        Turn.act(check, 3, "R0=65533 M2045=0xC1", "R0=0");
        Turn.act(check, 3, "R0=65534 M2046=0xC1", "R0=1");
    }

    private static void wrapsInEight(Check check) {
        Turn.op(check, 0xF4, "D=255 M0x240=1", "D=0 DF=1");
        Turn.op(check, 0xF5, "D=1 M0x240=0", "D=255 DF=0");
        Turn.op(check, 0xF7, "D=0 M0x240=1", "D=255 DF=0");
        Turn.op(check, 0xFE, "D=255", "D=254 DF=1");
        Turn.op(check, 0x74, "D=255 M0x240=255 DF=1", "D=255");
        Turn.op(check, 0x75, "D=255 M0x240=0", "D=0");
        Turn.op(check, 0x7E, "D=255 DF=1", "D=255");
    }

    private static void instruction(Check check) {
        for (int p : new int[] {0, 1, 14, 15}) {
            Turn.act(check, 2, "P=" + p + " R" + p + "=0x130 M0x12F=0x15 M0x130=0x17 M0x131=0x18",
                    "R" + p + "=0x131 R7=1");
        }
        Turn.act(check, 2, "R0=0x130 M0x130=0xEF", "R0=0x131 X=15");
        Turn.act(check, 2, "R0=0x130 M0x130=0xFE D=0x81", "R0=0x131 D=2 DF=1");
    }

    private static void growsFirst(Check check) {
        Turn.op(check, 0x13, "", "R3=0x132");
        Turn.op(check, 0x23, "", "R3=0x130");
        Turn.op(check, 0x83, "", "D=0x31");
        Turn.op(check, 0x93, "R3=0x1FF M0x1FF=0x93", "R3=0x200 D=2");
        Turn.op(check, 0xA3, "R3=0x1FF M0x1FF=0xA3 D=5", "R3=0x205");
        Turn.op(check, 0x53, "D=9", "M0x131=9");
        Turn.op(check, 0x60, "X=3", "R3=0x132");
        Turn.op(check, 0x73, "X=3 D=9", "R3=0x130 M0x131=9");
    }

    private static void nextByte(Check check) {
        Turn.op(check, 0xF8, "M0x130=0xF8 M0x131=0x66 M0x132=0x67", "R3=0x132 D=0x66");
        Turn.op(check, 0x43, "M0x131=0x66", "R3=0x132 D=0x66");
        Turn.act(check, 2, "R0=2047 M2047=0xF8 M0=0x66", "R0=2049 D=0x66");
        Turn.act(check, 2, "R0=65535 M2047=0xF8 M0=0x66", "R0=1 D=0x66");
        Turn.op(check, 0xF8, "P=0 R0=0x130 M0x131=255", "R3=0x130 R0=0x132 D=255");
    }

    private static void cycles(Check check) {
        for (int code = 0; code < 256; code++) {
            Board board = Board.with("R0=0x130 X=5 M0x130=" + code);
            int want = code >> 4 == 12 ? 3 : 2;
            check.due("run(1) of " + code, board.run(1), want);
            check.due("the place behind " + code, board.video(2), want);
        }
    }

    private static void idleCycles(Check check) {
        Board board = Board.with("P=3 R3=0x130 M0x131=0x17 D=7");
        check.due("run(1) of the instruction itself", board.run(1), 2);
        for (int n : new int[] {1, 1, 2, 5}) {
            int place = board.video(2);
            check.changes("run(" + n + ") while idle", board,
                    () -> check.due("run(" + n + ") while idle", board.run(n), n), "PLACE=" + (place + n));
        }
        Board instead = Board.with("P=3 R3=0x130 M0x131=0x17");
        check.due("run(3): an instruction and an idle cycle", instead.run(3), 3);
        check.due("R7", instead.cpu(7), 0);
    }

    private static void idle(Check check) {
        Turn.op(check, 0x00, "D=9 M0=0x55", "IDLE=1");
    }

    private static void load(Check check) {
        Turn.op(check, 0x01, "R1=0x300 M0x300=0x55", "D=0x55");
        Turn.op(check, 0x0F, "R15=0x300 M0x300=0 D=9", "D=0");
        Turn.op(check, 0x0F, "R15=0x300 M0x300=255 DF=1", "D=255");
    }

    private static void grow(Check check) {
        for (int n : new int[] {0, 1, 15}) {
            Turn.op(check, 0x10 + n, "R" + n + "=255", "R" + n + "=256");
            Turn.op(check, 0x10 + n, "R" + n + "=65535", "R" + n + "=0");
        }
    }

    private static void fall(Check check) {
        for (int n : new int[] {0, 1, 15}) {
            Turn.op(check, 0x20 + n, "R" + n + "=256", "R" + n + "=255");
            Turn.op(check, 0x20 + n, "R" + n + "=0", "R" + n + "=65535");
        }
    }

    private static void loadAndGrow(Check check) {
        for (int n : new int[] {0, 1, 15}) {
            Turn.op(check, 0x40 + n, "R" + n + "=0x300 M0x300=0x55 M0x301=0x66", "R" + n + "=0x301 D=0x55");
        }
        Turn.op(check, 0x40, "R0=65535 M2047=255 M0=1", "R0=0 D=255");
    }

    private static void store(Check check) {
        for (int n : new int[] {0, 1, 15}) {
            Turn.op(check, 0x50 + n, "R" + n + "=0x300 D=255", "M0x300=255");
        }
        Turn.op(check, 0x50, "M0=255", "M0=0");
    }

    private static void halves(Check check) {
        for (int n : new int[] {0, 15}) {
            Turn.op(check, 0x80 + n, "R" + n + "=0xFF00 D=9", "D=0");
            Turn.op(check, 0x80 + n, "R" + n + "=0x00FF", "D=255");
            Turn.op(check, 0x90 + n, "R" + n + "=0xFF00", "D=255");
            Turn.op(check, 0x90 + n, "R" + n + "=0x00FF D=9", "D=0");
        }
    }

    private static void putHalves(Check check) {
        for (int n : new int[] {0, 15}) {
            Turn.op(check, 0xA0 + n, "R" + n + "=0xFFFF D=0", "R" + n + "=0xFF00");
            Turn.op(check, 0xA0 + n, "R" + n + "=0 D=255", "R" + n + "=0x00FF");
            Turn.op(check, 0xB0 + n, "R" + n + "=0xFFFF D=0", "R" + n + "=0x00FF");
            Turn.op(check, 0xB0 + n, "R" + n + "=0 D=255", "R" + n + "=0xFF00");
        }
    }

    private static void setP(Check check) {
        for (int n : new int[] {0, 1, 15}) {
            Turn.op(check, 0xD0 + n, "", "P=" + n);
        }
        Board board = Board.with("R0=0x130 M0x130=0xDF R15=0x300 M0x300=0x17");
        board.run(3);
        check.due("R15 after DF and 17", board.cpu(15), 0x301);
        check.due("R0 after DF and 17", board.cpu(0), 0x131);
        check.due("R7 after DF and 17", board.cpu(7), 1);
    }

    private static void setX(Check check) {
        for (int n : new int[] {0, 1, 15}) {
            Turn.op(check, 0xE0 + n, "", "X=" + n);
        }
    }

    private static void branchTaken(Check check) {
        Turn.op(check, 0x30, "M0x131=0", "R3=0x100");
        Turn.op(check, 0x30, "M0x131=255", "R3=0x1FF");
        Turn.op(check, 0x30, "R3=0x1FE M0x1FE=0x30 M0x1FF=0x42", "R3=0x142");
        Turn.op(check, 0x30, "R3=0x1FF M0x1FF=0x30 M0x200=0x42", "R3=0x242");
        Turn.op(check, 0x30, "R3=0xFFFE M2046=0x30 M2047=0x42", "R3=0xFF42");
        Turn.op(check, 0x30, "R3=0xFFFF M2047=0x30 M0=0x42", "R3=0x0042");
    }

    private static void branchNotTaken(Check check) {
        Turn.op(check, 0x38, "M0x131=0x42", "R3=0x132");
        Turn.op(check, 0x38, "R3=0x1FE M0x1FE=0x38 M0x1FF=0x42", "R3=0x200");
        Turn.op(check, 0x38, "R3=0x1FF M0x1FF=0x38 M0x200=0x42", "R3=0x201");
        Turn.op(check, 0x38, "R3=0xFFFE M2046=0x38 M2047=0x42", "R3=0");
    }

    /** Whether this branch is taken with these parts. */
    private static void branch(Check check, int code, String before, boolean taken) {
        Turn.op(check, code, "M0x131=0x42 " + before, taken ? "R3=0x142" : "R3=0x132");
    }

    private static void conditions(Check check) {
        branch(check, 0x30, "D=1", true);
        branch(check, 0x30, "Q=1 DF=1", true);
        branch(check, 0x31, "Q=0 DF=1 D=1", false);
        branch(check, 0x31, "Q=1", true);
        branch(check, 0x32, "D=0 Q=1 DF=1", true);
        branch(check, 0x32, "D=1", false);
        branch(check, 0x32, "D=255", false);
        branch(check, 0x33, "DF=0 Q=1 D=1", false);
        branch(check, 0x33, "DF=1", true);
    }

    private static void lines(Check check) {
        branch(check, 0x34, "K0=1", false);
        branch(check, 0x35, "K0=1 Q=1 DF=1", false);
        branch(check, 0x36, "K0=1", true);
        branch(check, 0x36, "K1=1", false);
        branch(check, 0x37, "K0=1 Q=1 DF=1", false);
        Board board = VideoEdges.on(60, 0, 0);
        VideoEdges.next(board, 0x34, 0x42);
        check.due("run(1) of 34 in line 60", board.run(1), 2);
        check.due("RP behind 34 in line 60", board.cpu(3), 0x142);
    }

    private static void opposites(Check check) {
        branch(check, 0x38, "Q=1 DF=1 K0=1", false);
        branch(check, 0x39, "Q=0", true);
        branch(check, 0x39, "Q=1", false);
        branch(check, 0x3A, "D=0", false);
        branch(check, 0x3A, "D=1", true);
        branch(check, 0x3A, "D=128", true);
        branch(check, 0x3B, "DF=0", true);
        branch(check, 0x3B, "DF=1", false);
        branch(check, 0x3C, "", true);
        branch(check, 0x3D, "", true);
        branch(check, 0x3E, "", true);
        branch(check, 0x3E, "K0=1", false);
        branch(check, 0x3F, "", true);
        Board board = VideoEdges.on(60, 0, 0);
        VideoEdges.next(board, 0x3C, 0x42);
        board.run(1);
        check.due("RP behind 3C in line 60", board.cpu(3), VideoEdges.CODE + 2);
    }

    private static void growX(Check check) {
        Turn.op(check, 0x60, "M0x240=9", "R5=0x241");
        Turn.op(check, 0x60, "X=0 R0=65535", "R0=0");
        Turn.op(check, 0x60, "X=15", "R15=1");
    }

    private static void out(Check check) {
        for (int n = 1; n < 8; n++) {
            Turn.op(check, 0x60 + n, "M0x240=0xFB D=9", "R5=0x241" + (n == 2 ? " KEY=11" : ""));
        }
        Turn.op(check, 0x62, "X=3 M0x131=0x0E", "R3=0x132 KEY=14");
    }

    private static void sixtyEight(Check check) {
        Turn.op(check, 0x68, "M0x240=9 D=9 DF=1", "");
    }

    private static void in(Check check) {
        for (int n = 9; n < 16; n++) {
            Turn.op(check, 0x60 + n, "M0x240=255 D=255 DF=1", "M0x240=0 D=0" + (n == 9 ? " ON=1" : ""));
        }
        Turn.op(check, 0x6A, "X=3 M0x131=0x55", "M0x131=0");
    }
}
