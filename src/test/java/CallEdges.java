/** Promises 1, 4, 5 and 7 to 12: what each call takes and tells at its bounds, and what it refuses. */
final class CallEdges {
    private static final int MOST = Integer.MAX_VALUE;
    private static final int LEAST = Integer.MIN_VALUE;

    private CallEdges() {
    }

    static void all(Edges edges) {
        edges.says("Promise 1", "As told.", CallEdges::newBoard);
        edges.says("Promise 4", "0 .. 15 the registers, 16 D, 17 DF, 18 P, 19 X, 20 T, 21 IE, 22 Q,", CallEdges::cpuTells);
        edges.says("Promise 4", "23 whether it is IDLE (1 or 0).", CallEdges::cpuTellsIdle);
        edges.says("Promise 4", "Throws NoSuchElementException for another what.", CallEdges::cpuRefuses);
        edges.says("Promise 5", "Sets what cpu(what) tells, 0 .. 22.", CallEdges::sets);
        edges.says("Promise 5", "Throws IllegalArgumentException when there is no such one,", CallEdges::setRefusesWhat);
        edges.says("Promise 5", "or v is not of its kind (16 bits; D, T 8; P, X 4; others 1).", CallEdges::setRefusesValue);
        edges.says("Promise 7", "Lets instructions and idle cycles go by until at least n cycles are over",
                CallEdges::runsUntil);
        edges.says("Promise 7", "(with what video takes): how many were.", CallEdges::runsWithVideo);
        edges.says("Promise 7", "Throws IllegalArgumentException when n is not 1 .. 4000.", CallEdges::runRefuses);
        edges.says("Promise 8", "0 whether video is on, 1 the line, 2 the place in it, 3 how many frames are over, "
                + "4 whether EF1 is on, 5 the key that EF3 tells.", CallEdges::videoTells);
        edges.says("Promise 8", "Throws NoSuchElementException for another what.", CallEdges::videoRefuses);
        edges.says("Promise 9", "A byte of the screen as video fetched it last;", CallEdges::shownLast);
        edges.says("Promise 9", "0 before.", CallEdges::shownBefore);
        edges.says("Promise 9", "Throws NoSuchElementException when row is not 0 .. 127, or k not 0 .. 7.",
                CallEdges::shownRefuses);
        ofTheLanguage(edges);
    }

    private static void ofTheLanguage(Edges edges) {
        edges.says("Promise 10", "Makes at most n steps of the language: how many were made.", CallEdges::chipMakes);
        edges.says("Promise 10", "Throws IllegalArgumentException when n is not 1 .. 200;", CallEdges::chipRefuses);
        edges.says("Promise 10", "UnsupportedOperationException at an instruction that is none,", CallEdges::chipAtNone);
        edges.says("Promise 10", "IllegalStateException at 00EE with an empty stack,", CallEdges::chipAtEmptyStack);
        edges.says("Promise 10", "2nnn with a full one", CallEdges::chipAtFullStack);
        edges.says("Promise 10", "(steps before are made; PC is that of the instruction then, nothing else of it is done).",
                CallEdges::chipMakesStepsBefore);
        edges.says("Promise 11", "0 .. 15 V, 16 I, 17 PC, 18 how many are on the stack, 19 DELAY, 20 TONE, 21 RANDOM.",
                CallEdges::vTells);
        edges.says("Promise 11", "Throws NoSuchElementException for another what.", CallEdges::vRefuses);
        edges.says("Promise 12", "PC becomes an address,", CallEdges::starts);
        edges.says("Promise 12", "the stack is empty.", CallEdges::startEmptiesStack);
        edges.says("Promise 12", "Throws IllegalArgumentException when it is not 0 .. 2047.", CallEdges::startRefuses);
    }

    /** A board in the midst of everything, on which a change of any part would show. */
    static Board busy() {
        Board board = VideoEdges.on(100, 2, 1);
        board.pokePairs(512, 0x61AA, 0x6F33, 0xF115, 0xFF18, 0xC2FF, 0xA345, 0x2300);
        board.pokePairs(0x300, 0x2400);
        board.chip(8);
        board.poke(700, 0x42);
        board.key(3, true);
        board.key(9, true);
        VideoEdges.next(board, 0x62, 0x7B, 0x30, 0x82);
        board.poke(0x240, 9);
        board.set(5, 0x240);
        board.run(1);
        for (int n = 6; n < 16; n++) {
            board.set(n, 0x1111 * n);
        }
        board.set(16, 0x77);
        board.set(17, 1);
        board.set(20, 0x88);
        return board;
    }

    /** Interrupted in line 62, idle behind it, and all on the stack that goes there. */
    static Board idleAndFull() {
        Board board = VideoEdges.on(62, 0, 1);
        board.set(1, VideoEdges.CODE + 1);
        board.set(21, 1);
        board.pokePairs(512, 0x2200);
        board.chip(12);
        board.run(3);
        return board;
    }

    private static void newBoard(Check check) {
        Board board = new Board();
        for (var entry : State.of(board).entrySet()) {
            String name = entry.getKey();
            int want = name.equals("IE") ? 1 : name.equals("PC") ? 512 : name.startsWith("TOP") ? -1 : 0;
            check.due(name, entry.getValue(), want);
        }
        busy().run(1);
        check.due("PC of a board made behind another", new Board().v(17), 512);
        check.due("run(1): the first instruction is that at 0", board.run(1), 2);
        check.due("IDLE behind it", board.cpu(23), 1);
    }

    private static void cpuTells(Check check) {
        int[] values = new int[23];
        Board board = new Board();
        for (int what = 0; what <= 22; what++) {
            // Where there is room for it, each holds another value.
            values[what] = what == 21 ? 0 : most(what) - (most(what) > 1 ? what % 16 : 0);
            board.set(what, values[what]);
        }
        check.changes("cpu", board, () -> {
            for (int what = 0; what <= 22; what++) {
                check.due("cpu(" + what + ")", board.cpu(what), values[what]);
            }
        }, "");
        for (int one : new int[] {17, 21, 22}) {
            Board other = Board.with("DF=0 IE=0 Q=0");
            other.set(one, 1);
            for (int what : new int[] {17, 21, 22}) {
                check.due("cpu(" + what + ") with " + one + " set alone", other.cpu(what), what == one ? 1 : 0);
            }
        }
    }

    private static void cpuTellsIdle(Check check) {
        Board board = new Board();
        check.due("cpu(23) at first", board.cpu(23), 0);
        board.run(1);
        check.due("cpu(23) behind 00", board.cpu(23), 1);
        check.due("cpu(23) behind 68", runOf(0x68).cpu(23), 0);
    }

    private static Board runOf(int code) {
        Board board = Board.with("M0=" + code);
        board.run(1);
        return board;
    }

    private static void cpuRefuses(Check check) {
        for (int what : new int[] {-1, 24, 25, MOST, LEAST}) {
            for (Board board : new Board[] {busy(), idleAndFull()}) {
                check.refused("cpu(" + what + ")", board, Check.NO_SUCH, () -> board.cpu(what));
            }
        }
    }

    private static int most(int what) {
        if (what < 16) {
            return 65535;
        }
        return what == 16 || what == 20 ? 255 : what == 18 || what == 19 ? 15 : 1;
    }

    private static void sets(Check check) {
        String[] names = {"D", "DF", "P", "X", "T", "IE", "Q"};
        for (int k = 0; k <= 22; k++) {
            int what = k;
            for (int value : new int[] {0, most(what)}) {
                Board board = idleAndFull();
                String name = what < 16 ? "R" + what : names[what - 16];
                check.changes("set(" + what + ", " + value + ")", board, () -> board.set(what, value),
                        "IDLE=1 " + name + "=" + value);
            }
        }
    }

    private static void setRefusesWhat(Check check) {
        for (int what : new int[] {-1, 23, 24, MOST, LEAST}) {
            for (int value : new int[] {0, 1}) {
                for (Board board : new Board[] {busy(), idleAndFull()}) {
                    check.refused("set(" + what + ", " + value + ")", board, Check.ILLEGAL_ARGUMENT,
                            () -> board.set(what, value));
                }
            }
        }
    }

    private static void setRefusesValue(Check check) {
        for (int k = 0; k <= 22; k++) {
            int what = k;
            for (int value : new int[] {-1, most(what) + 1, MOST, LEAST}) {
                Board board = busy();
                check.refused("set(" + what + ", " + value + ")", board, Check.ILLEGAL_ARGUMENT,
                        () -> board.set(what, value));
            }
        }
    }

    /** A loop of instructions of 2 cycles, with one of 3 before it. */
    private static Board waiting() {
        return Board.with("M0x100=0xC4 M0x101=0x30 M0x102=0x01 R0=0x100");
    }

    private static void runsUntil(Check check) {
        int[][] rows = {{1, 3}, {2, 3}, {3, 3}, {4, 5}, {5, 5}, {6, 7}, {3999, 3999}, {4000, 4001}};
        for (int[] row : rows) {
            Board board = waiting();
            check.due("run(" + row[0] + ")", board.run(row[0]), row[1]);
            check.due("the time behind it", board.video(3) * 3668 + board.video(1) * 14 + board.video(2), row[1]);
        }
        Board idle = new Board();
        check.due("run(1) of IDLE", idle.run(1), 2);
        for (int n : new int[] {1, 2, 3, 3999, 4000}) {
            check.due("run(" + n + ") while idle", idle.run(n), n);
        }
    }

    private static void runsWithVideo(Check check) {
        int[][] rows = {{1, 2}, {2, 2}, {3, 12}, {4, 12}, {12, 12}, {13, 14}};
        for (int[] row : rows) {
            Board board = VideoEdges.on(63, 12, 0);
            VideoEdges.next(board, 0x68, 0x68, 0x68, 0x68);
            check.due("run(" + row[0] + ") with a fetch", board.run(row[0]), row[1]);
        }
        int[][] interrupted = {{1, 3}, {2, 3}, {3, 3}, {4, 5}};
        for (int[] row : interrupted) {
            Board board = VideoEdges.on(61, 12, 1);
            VideoEdges.next(board, 0x68);
            board.set(1, 0x101);
            check.due("run(" + row[0] + ") with an interrupt", board.run(row[0]), row[1]);
        }
        Board board = VideoEdges.on(64, 0, 0);
        board.set(3, 0x101);
        check.due("run(3) that a fetch ends", board.run(3), 10);
    }

    private static void runRefuses(Check check) {
        for (int n : new int[] {0, -1, 4001, MOST, LEAST}) {
            for (Board board : new Board[] {busy(), idleAndFull(), new Board()}) {
                check.refused("run(" + n + ")", board, Check.ILLEGAL_ARGUMENT, () -> board.run(n));
            }
        }
        check.due("run(1)", waiting().run(1), 3);
        check.due("run(4000)", waiting().run(4000), 4001);
    }

    private static void videoTells(Check check) {
        Board board = VideoEdges.on(60, 11, 0);
        board.poke(0x240, 0xFE);
        VideoEdges.next(board, 0x62);
        board.run(1);
        int[] want = {1, 60, 13, 0, 1, 14};
        check.changes("video", board, () -> {
            for (int what = 0; what < want.length; what++) {
                check.due("video(" + what + ")", board.video(what), want[what]);
            }
        }, "");
        Board later = waiting();
        check.due("run(4000)", later.run(4000), 4001);
        check.due("run(4000) again", later.run(4000), 4000);
        int[] then = {0, (8001 - 2 * 3668) / 14, (8001 - 2 * 3668) % 14, 2, 0, 0};
        for (int what = 0; what < then.length; what++) {
            check.due("video(" + what + ") after 8001 cycles", later.video(what), then[what]);
        }
    }

    private static void videoRefuses(Check check) {
        for (int what : new int[] {-1, 6, 7, MOST, LEAST}) {
            for (Board board : new Board[] {busy(), idleAndFull()}) {
                check.refused("video(" + what + ")", board, Check.NO_SUCH, () -> board.video(what));
            }
        }
    }

    private static void shownLast(Check check) {
        Board board = VideoEdges.on(63, 12, 0);
        board.set(0, 0x400);
        board.poke(0x400, 0x81);
        board.poke(0x407, 0x18);
        board.set(3, 0x101);
        board.run(4);
        check.due("shown(0, 0)", board.shown(0, 0), 0x81);
        check.due("shown(0, 7)", board.shown(0, 7), 0x18);
        board.poke(0x400, 0x55);
        check.due("shown(0, 0) after a poke", board.shown(0, 0), 0x81);
        check.due("run(3658)", board.run(3658), 3658);
        check.due("video(1) a frame later", board.video(1), 64);
        check.due("video(2) a frame later", board.video(2), 0);
        check.due("shown(0, 0) before it is fetched again", board.shown(0, 0), 0x81);
        board.set(0, 0x400);
        board.run(1);
        check.due("shown(0, 0) fetched again", board.shown(0, 0), 0x55);
    }

    private static void shownBefore(Check check) {
        Board board = new Board();
        check.due("shown(0, 0)", board.shown(0, 0), 0);
        check.due("shown(127, 7)", board.shown(127, 7), 0);
        for (int address : new int[] {0, 1792, 2047}) {
            board.poke(address, 255);
        }
        check.due("shown(0, 0) of memory that was not fetched", board.shown(0, 0), 0);
        check.due("shown(127, 7) of memory that was not fetched", board.shown(127, 7), 0);
    }

    private static void shownRefuses(Check check) {
        int[][] rows = {
            {-1, 0}, {-1, 7}, {128, 0}, {128, 7}, {0, -1}, {127, -1}, {0, 8}, {127, 8}, {126, 8}, {1, -1},
            {MOST, 0}, {LEAST, 0}, {0, MOST}, {0, LEAST}, {-1, 8}, {128, -1},
        };
        for (int[] row : rows) {
            Board board = busy();
            check.refused("shown(" + row[0] + ", " + row[1] + ")", board, Check.NO_SUCH, () -> board.shown(row[0], row[1]));
        }
        Board board = VideoEdges.on(191, 2, 0);
        check.changes("shown", board, () -> {
            check.due("shown(0, 0)", board.shown(0, 0), 0);
            check.due("shown(127, 7)", board.shown(127, 7), 0);
        }, "");
    }

    private static void chipMakes(Check check) {
        for (int n : new int[] {1, 2, 199, 200}) {
            Board board = new Board();
            board.pokePairs(512, 0x7101, 0x1200);
            check.due("chip(" + n + ")", board.chip(n), n);
            check.due("V1 behind it", board.v(1), (n + 1) / 2);
            check.due("PC behind it", board.v(17), n % 2 == 0 ? 512 : 514);
        }
        Board board = new Board();
        board.pokePairs(512, 0x6101, 0xF10A);
        check.due("chip(200) up to a key that is not down", board.chip(200), 1);
    }

    private static void chipRefuses(Check check) {
        for (int n : new int[] {0, -1, 201, MOST, LEAST}) {
            for (Board board : new Board[] {busy(), idleAndFull()}) {
                board.start(600);
                board.pokePairs(600, 0x6177);
                check.refused("chip(" + n + ")", board, Check.ILLEGAL_ARGUMENT, () -> board.chip(n));
            }
        }
    }

    private static void chipAtNone(Check check) {
        for (int pair : new int[] {0x0000, 0x00E1, 0x00EF, 0x5001, 0x8008, 0x9001, 0xE000, 0xF000}) {
            Board board = busy();
            board.pokePairs(0x400, pair);
            check.refused("chip(1) at " + Integer.toHexString(pair), board, Check.UNSUPPORTED, () -> board.chip(1));
            check.refused("chip(200) at " + Integer.toHexString(pair), board, Check.UNSUPPORTED, () -> board.chip(200));
        }
    }

    private static void chipAtEmptyStack(Check check) {
        Board board = busy();
        board.pokePairs(0x400, 0x00EE);
        board.pokePairs(0x302, 0x00EE);
        board.pokePairs(526, 0x00EE);
        check.due("chip(2) with two on the stack", board.chip(2), 2);
        check.due("v(18)", board.v(18), 0);
        check.refused("chip(1) with none", board, Check.ILLEGAL_STATE, () -> board.chip(1));
    }

    private static void chipAtFullStack(Check check) {
        Board board = idleAndFull();
        check.due("v(18)", board.v(18), 12);
        check.refused("chip(1) with 12", board, Check.ILLEGAL_STATE, () -> board.chip(1));
        board.pokePairs(512, 0x2FFF);
        check.refused("chip(200) with 12", board, Check.ILLEGAL_STATE, () -> board.chip(200));
    }

    private static void chipMakesStepsBefore(Check check) {
        Board none = new Board();
        none.pokePairs(512, 0x6107, 0xA123, 0xFFFF);
        check.changes("none", none, () -> check.throwsDue("chip(3)", Check.UNSUPPORTED, () -> none.chip(3)),
                "V1=7 I=0x123 PC=516");
        Board enough = new Board();
        enough.pokePairs(512, 0x6107, 0xA123, 0xFFFF);
        check.due("chip(2) up to one that is none", enough.chip(2), 2);
        Board empty = new Board();
        empty.pokePairs(512, 0x2300, 0x00EE);
        empty.pokePairs(0x300, 0x6107, 0x00EE);
        check.changes("empty", empty, () -> check.throwsDue("chip(200)", Check.ILLEGAL_STATE, () -> empty.chip(200)),
                "V1=7 PC=514");
        Board full = new Board();
        full.pokePairs(512, 0x7101, 0x2200);
        String stack = "";
        for (int k = 1; k <= 12; k++) {
            stack += " TOP" + k + "=516";
        }
        check.changes("full", full, () -> check.throwsDue("chip(200)", Check.ILLEGAL_STATE, () -> full.chip(200)),
                "V1=13 DEPTH=12 PC=514" + stack);
    }

    private static void vTells(Check check) {
        Board board = new Board();
        board.pokePairs(512, 0x6A21, 0xFA15, 0x6A22, 0xFA18, 0xC0FF, 0xC0FF, 0xA300, 0xFF65, 0xAFED, 0x2ABC);
        for (int k = 0; k < 16; k++) {
            board.poke(0x300 + k, 240 - k);
        }
        board.chip(10);
        check.changes("v", board, () -> {
            for (int k = 0; k < 16; k++) {
                check.due("v(" + k + ")", board.v(k), 240 - k);
            }
            check.due("v(16)", board.v(16), 0xFED);
            check.due("v(17)", board.v(17), 0xABC);
            check.due("v(18)", board.v(18), 1);
            check.due("v(19)", board.v(19), 0x21);
            check.due("v(20)", board.v(20), 0x22);
            check.due("v(21)", board.v(21), 6);
        }, "");
    }

    private static void vRefuses(Check check) {
        for (int what : new int[] {-1, 22, 23, MOST, LEAST}) {
            for (Board board : new Board[] {busy(), idleAndFull()}) {
                check.refused("v(" + what + ")", board, Check.NO_SUCH, () -> board.v(what));
            }
        }
    }

    private static void starts(Check check) {
        for (int pc : new int[] {0, 1, 511, 2046, 2047}) {
            Board board = Board.with("M" + pc + "=0x61 M" + (pc + 1) % 2048 + "=0x09");
            check.changes("start(" + pc + ")", board, () -> board.start(pc), "PC=" + pc);
            check.changes("6109 at " + pc, board, () -> check.due("chip(1)", board.chip(1), 1), "V1=9 PC=" + (pc + 2));
        }
        Board board = busy();
        check.changes("start(7)", board, () -> board.start(7), "PC=7 DEPTH=0 TOP1=-1 TOP2=-1");
    }

    private static void startEmptiesStack(Check check) {
        Board board = idleAndFull();
        String gone = "";
        for (int k = 1; k <= 12; k++) {
            gone += " TOP" + k + "=-1";
        }
        check.changes("start(2047)", board, () -> board.start(2047), "PC=2047 DEPTH=0" + gone);
        board.start(512);
        check.due("chip(12) with room again", board.chip(12), 12);
        board.start(600);
        board.pokePairs(600, 0x00EE);
        check.refused("chip(1) at 00EE behind start", board, Check.ILLEGAL_STATE, () -> board.chip(1));
    }

    private static void startRefuses(Check check) {
        for (int pc : new int[] {-1, 2048, 4095, MOST, LEAST}) {
            for (Board board : new Board[] {busy(), idleAndFull()}) {
                check.refused("start(" + pc + ")", board, Check.ILLEGAL_ARGUMENT, () -> board.start(pc));
            }
        }
    }
}
