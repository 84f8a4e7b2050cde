/** Promises 7, 8 and 9: run, video and shown, and what the video chip does between instructions. */
public final class VideoTest {
    private static final int LINE = 14;
    private static final int FRAME = 262 * LINE;
    /** A turn of the loop that waits, and the instructions that turn video on and off. */
    private static final int WAIT = 0x101;
    private static final int ON = 0x180;
    private static final int OFF = 0x190;
    private static final int STOP = 0x1A0;

    private static final Check CHECK = new Check();

    public static void main(String[] args) {
        refusesWrongOnes();
        countsCycles();
        timeGoesOnWhileOff();
        flagWithItsLines();
        branchOnFlag();
        fetchesRows();
        fetchBeginsAtPlaceTwo();
        fetchOverTheLineEnd();
        fetchesALineOnce();
        fetchesAgainInTheNextFrame();
        fetchTakesBytesThatWrap();
        idleEndsByFetch();
        interruptInItsLines();
        interruptOncePerFrame();
        interruptThatMayNotBe();
        idleEndsByInterrupt();
        offMeansNothing();
        timersFall();
        CHECK.end();
    }

    /** A board whose video is off, waiting in a loop of 2 cycles, after so many cycles in all. */
    private static VipBoard at(int time) {
        VipBoard board = new VipBoard();
        Check.pokeAll(board, 0x100, 0xC4, 0x30, 0x01);
        Check.pokeAll(board, ON, 0x69, 0x30, 0x81);
        Check.pokeAll(board, OFF, 0x61, 0x30, 0x91);
        board.set(18, 3);
        board.set(3, time % 2 == 1 ? 0x100 : WAIT);
        board.set(19, 5);
        board.set(5, 0x240);
        int left = time;
        while (left > 0) {
            left -= board.run(Math.min(left, 4000));
        }
        CHECK.due("the time that is over", left, 0);
        return board;
    }

    /** The same, but video has just been turned on when the time is over; IE as given. */
    private static VipBoard onAt(int time, int ie) {
        VipBoard board = at(time - 2);
        board.set(21, ie);
        board.set(3, ON);
        board.run(1);
        return board;
    }

    private static void place(VipBoard board, String when, int line, int place) {
        CHECK.due("video(1) " + when, board.video(1), line);
        CHECK.due("video(2) " + when, board.video(2), place);
    }

    private static void refusesWrongOnes() {
        VipBoard board = new VipBoard();
        for (int n : new int[] {0, -1, 4001, Integer.MAX_VALUE, Integer.MIN_VALUE}) {
            CHECK.throwsDue("run(" + n + ")", Check.ILLEGAL_ARGUMENT, () -> board.run(n));
        }
        for (int what : new int[] {-1, 6, Integer.MAX_VALUE, Integer.MIN_VALUE}) {
            CHECK.throwsDue("video(" + what + ")", Check.NO_SUCH, () -> board.video(what));
        }
        int[][] wrong = {
            {-1, 0}, {128, 0}, {0, -1}, {0, 8}, {127, 8}, {1000, 1000},
            {Integer.MIN_VALUE, 0}, {0, Integer.MAX_VALUE},
        };
        for (int[] pair : wrong) {
            CHECK.throwsDue("shown(" + pair[0] + ", " + pair[1] + ")", Check.NO_SUCH,
                    () -> board.shown(pair[0], pair[1]));
        }
        CHECK.due("shown(127, 7)", board.shown(127, 7), 0);
        place(board, "after refused calls", 0, 0);
    }

    private static void countsCycles() {
        VipBoard board = at(0);
        CHECK.due("run(1) of 2 cycles", board.run(1), 2);
        CHECK.due("run(2)", board.run(2), 2);
        CHECK.due("run(3)", board.run(3), 4);
        CHECK.due("run(4000)", board.run(4000), 4000);
        board.set(3, 0x100);
        CHECK.due("run(1) of 3 cycles", board.run(1), 3);
        board = at(0);
        board.set(3, 0x100);
        CHECK.due("run(4) of 3 and 2 cycles", board.run(4), 5);
        place(board, "after 5 cycles", 0, 5);
    }

    private static void timeGoesOnWhileOff() {
        VipBoard board = at(13);
        place(board, "after 13", 0, 13);
        place(at(14), "after 14", 1, 0);
        place(at(15), "after 15", 1, 1);
        board = at(FRAME - 1);
        place(board, "at a frame's end", 261, 13);
        CHECK.due("video(3) at a frame's end", board.video(3), 0);
        board.set(3, WAIT);
        board.run(1);
        place(board, "in the next frame", 0, 1);
        CHECK.due("video(3) in the next frame", board.video(3), 1);
        board = at(3 * FRAME);
        place(board, "after three frames", 0, 0);
        CHECK.due("video(3) after three frames", board.video(3), 3);
        CHECK.due("video(0) all the time", board.video(0), 0);
        CHECK.due("video(4) while off", at(60 * LINE).video(4), 0);
    }

    private static void flagWithItsLines() {
        int[][] rows = {
            {60 * LINE - 1, 0}, {60 * LINE, 1}, {63 * LINE + 13, 1}, {64 * LINE, 0},
            {187 * LINE + 5, 0}, {188 * LINE, 1}, {191 * LINE + 1, 1}, {192 * LINE, 0},
        };
        for (int[] row : rows) {
            CHECK.due("video(4) at " + row[0], onAt(row[0], 0).video(4), row[1]);
        }
        VipBoard board = onAt(60 * LINE, 0);
        board.set(3, OFF);
        board.run(1);
        CHECK.due("video(4) after OUT 1", board.video(4), 0);
        CHECK.due("video(0) after OUT 1", board.video(0), 0);
    }

    private static void branchOnFlag() {
        int[][] rows = {{60 * LINE - 2, 0}, {60 * LINE, 1}, {63 * LINE + 12, 1}, {64 * LINE, 0}};
        for (int[] row : rows) {
            VipBoard board = onAt(row[0], 0);
            Check.pokeAll(board, STOP, 0x34, 0xE0);
            board.set(3, STOP);
            board.run(1);
            CHECK.due("34 at " + row[0], board.cpu(3), row[1] == 1 ? 0x1E0 : STOP + 2);
            board = onAt(row[0], 0);
            Check.pokeAll(board, STOP, 0x3C, 0xE0);
            board.set(3, STOP);
            board.run(1);
            CHECK.due("3C at " + row[0], board.cpu(3), row[1] == 0 ? 0x1E0 : STOP + 2);
        }
    }

    private static void fetchesRows() {
        VipBoard board = onAt(63 * LINE + 12, 0);
        board.set(0, 0x400);
        for (int k = 0; k < 16; k++) {
            board.poke(0x400 + k, 0x80 + k);
        }
        CHECK.due("run(1) that ends at place 0", board.run(1), 2);
        CHECK.due("R0 before a fetch", board.cpu(0), 0x400);
        CHECK.due("run(1) with a fetch", board.run(1), 10);
        place(board, "behind a fetch", 64, 10);
        CHECK.due("R0 behind a fetch", board.cpu(0), 0x408);
        for (int k = 0; k < 8; k++) {
            CHECK.due("shown(0, " + k + ")", board.shown(0, k), 0x80 + k);
            CHECK.due("shown(1, " + k + ")", board.shown(1, k), 0);
        }
        CHECK.due("run(14) with a fetch", board.run(14), 14);
        place(board, "behind another fetch", 65, 10);
        for (int k = 0; k < 8; k++) {
            CHECK.due("shown(1, " + k + ") then", board.shown(1, k), 0x88 + k);
        }
        board.poke(0x400, 0);
        CHECK.due("shown(0, 0) after a poke", board.shown(0, 0), 0x80);
    }

    private static void fetchBeginsAtPlaceTwo() {
        VipBoard board = onAt(100 * LINE + 1, 0);
        place(board, "before place 2", 100, 1);
        CHECK.due("R0 at place 1", board.cpu(0), 0);
        board = onAt(100 * LINE + 2, 0);
        place(board, "behind a fetch from place 2", 100, 10);
        CHECK.due("R0 behind a fetch from place 2", board.cpu(0), 8);
        place(onAt(63 * LINE + 2, 0), "in line 63", 63, 2);
        place(onAt(192 * LINE + 2, 0), "in line 192", 192, 2);
        place(onAt(64 * LINE + 2, 0), "in line 64", 64, 10);
        place(onAt(191 * LINE + 2, 0), "in line 191", 191, 10);
    }

    private static void fetchOverTheLineEnd() {
        VipBoard board = onAt(64 * LINE + 13, 0);
        place(board, "behind a fetch over the line's end", 65, 7);
        board.poke(board.cpu(0) + 3, 0x33);
        CHECK.due("run(1) fetches the next line too", board.run(1), 10);
        place(board, "behind the next line's fetch", 66, 3);
        CHECK.due("shown(1, 3)", board.shown(1, 3), 0x33);
        board = at(191 * LINE + 11);
        board.set(21, 0);
        board.set(0, 0x300);
        board.poke(0x307, 0x77);
        board.set(3, ON);
        CHECK.due("run(1) with the last row", board.run(1), 10);
        place(board, "behind the last row", 192, 7);
        CHECK.due("shown(127, 7)", board.shown(127, 7), 0x77);
        CHECK.due("run(1) behind the last row", board.run(1), 2);
    }

    private static void fetchesALineOnce() {
        VipBoard board = onAt(70 * LINE + 2, 0);
        CHECK.due("run(1) in a fetched line", board.run(1), 2);
        CHECK.due("R0 in a fetched line", board.cpu(0), 8);
        board = onAt(70 * LINE + 2, 0);
        board.set(3, OFF);
        board.run(1);
        CHECK.due("R5 behind OUT 1", board.cpu(5), 0x241);
        Check.pokeAll(board, STOP, 0x69);
        board.set(3, STOP);
        CHECK.due("turned on again in a fetched line", board.run(1), 2);
        place(board, "turned on again", 71, 0);
        CHECK.due("run(1) in the next line", board.run(1), 10);
    }

    private static void fetchesAgainInTheNextFrame() {
        VipBoard board = onAt(64 * LINE + 2, 0);
        board.set(3, OFF);
        board.run(1);
        board.run(FRAME - 12);
        CHECK.due("video(3)", board.video(3), 1);
        place(board, "a frame later", 64, 0);
        board.set(0, 0x500);
        board.poke(0x500, 0xEE);
        board.set(3, ON);
        CHECK.due("shown(0, 0) before", board.shown(0, 0), 0);
        CHECK.due("run(1) a frame later", board.run(1), 10);
        CHECK.due("shown(0, 0) behind it", board.shown(0, 0), 0xEE);
    }

    private static void fetchTakesBytesThatWrap() {
        VipBoard board = at(80 * LINE);
        board.set(21, 0);
        board.set(0, 65533);
        board.poke(2045, 0x11);
        board.poke(2047, 0x22);
        board.poke(0, 0x44);
        board.set(3, ON);
        board.run(1);
        CHECK.due("R0 behind it", board.cpu(0), 5);
        CHECK.due("shown(16, 0)", board.shown(16, 0), 0x11);
        CHECK.due("shown(16, 2)", board.shown(16, 2), 0x22);
        CHECK.due("shown(16, 3)", board.shown(16, 3), 0x44);
    }

    private static void idleEndsByFetch() {
        VipBoard board = onAt(60 * LINE, 0);
        board.set(3, STOP);
        CHECK.due("run(55) while idle", board.run(55), 55);
        CHECK.due("cpu(23) before line 64", board.cpu(23), 1);
        CHECK.due("run(2)", board.run(2), 2);
        CHECK.due("cpu(23) at place 1", board.cpu(23), 1);
        CHECK.due("run(1) with the fetch", board.run(1), 9);
        place(board, "behind an idle cycle and a fetch", 64, 10);
        CHECK.due("cpu(23) behind the fetch", board.cpu(23), 0);
        board = onAt(64 * LINE, 0);
        board.set(3, STOP);
        CHECK.due("run(1) of IDLE with a fetch", board.run(1), 10);
        CHECK.due("cpu(23) at once", board.cpu(23), 0);
    }

    private static void interrupted(VipBoard board, String when, int is) {
        CHECK.due("P " + when, board.cpu(18), is == 1 ? 1 : 3);
        CHECK.due("X " + when, board.cpu(19), is == 1 ? 2 : 5);
        CHECK.due("T " + when, board.cpu(20), is == 1 ? 0x53 : 0);
        CHECK.due("IE " + when, board.cpu(21), is == 1 ? 0 : 1);
    }

    private static void interruptInItsLines() {
        int[][] rows = {
            {60 * LINE, 0}, {61 * LINE + 13, 0}, {62 * LINE, 1}, {62 * LINE + 9, 1},
            {63 * LINE, 1}, {63 * LINE + 13, 1}, {64 * LINE, 0}, {64 * LINE + 2, 0}, {192 * LINE, 0},
        };
        for (int[] row : rows) {
            VipBoard board = onAt(row[0], 1);
            interrupted(board, "at " + row[0], row[1]);
        }
        place(onAt(62 * LINE, 1), "behind an interrupt", 62, 1);
        place(onAt(63 * LINE + 13, 1), "behind an interrupt at the line's end", 64, 0);
        VipBoard board = at(62 * LINE);
        board.set(3, ON);
        CHECK.due("run(1) with an interrupt", board.run(1), 3);
    }

    private static void interruptOncePerFrame() {
        VipBoard board = onAt(62 * LINE, 1);
        board.set(1, WAIT);
        board.set(21, 1);
        CHECK.due("run(20) behind an interrupt", board.run(20), 20);
        place(board, "still before line 64", 63, 7);
        CHECK.due("IE with no second interrupt", board.cpu(21), 1);
        CHECK.due("T with no second interrupt", board.cpu(20), 0x53);
        board.set(21, 0);
        int left = FRAME - 20;
        left -= board.run(left);
        CHECK.due("video(3)", board.video(3), 1);
        CHECK.due("video(1)", board.video(1), 62);
        board.set(21, 1);
        CHECK.due("run(1) in the next frame", board.run(1), 3);
        CHECK.due("T in the next frame", board.cpu(20), 0x21);
        CHECK.due("IE in the next frame", board.cpu(21), 0);
    }

    private static void interruptThatMayNotBe() {
        VipBoard board = onAt(62 * LINE, 0);
        CHECK.due("T with IE 0", board.cpu(20), 0);
        place(board, "with IE 0", 62, 0);
        board.run(18);
        place(board, "with IE 0", 63, 4);
        board.set(21, 1);
        CHECK.due("run(1) with IE 1 again", board.run(1), 3);
        interrupted(board, "with IE 1 again", 1);
    }

    private static void idleEndsByInterrupt() {
        VipBoard board = onAt(60 * LINE, 1);
        board.set(3, STOP);
        CHECK.due("run(27) while idle", board.run(27), 27);
        CHECK.due("cpu(23) before line 62", board.cpu(23), 1);
        CHECK.due("run(1) with the interrupt", board.run(1), 2);
        CHECK.due("cpu(23) behind the interrupt", board.cpu(23), 0);
        interrupted(board, "out of IDLE", 1);
    }

    private static void offMeansNothing() {
        VipBoard board = at(62 * LINE);
        interrupted(board, "while off", 0);
        board.run(40 * LINE);
        CHECK.due("R0 while off", board.cpu(0), 0);
        board = onAt(63 * LINE + 12, 0);
        board.set(3, OFF);
        CHECK.due("run(1) of OUT 1", board.run(1), 2);
        CHECK.due("run(20) behind OUT 1", board.run(20), 20);
        CHECK.due("R0 behind OUT 1", board.cpu(0), 0);
    }

    private static void timersFall() {
        VipBoard board = Check.chipProgram(0x6102, 0x62FF, 0xF115, 0xF218, 0xF118);
        board.chip(4);
        board.set(0, 0x100);
        CHECK.due("run until the last cycle", board.run(FRAME - 1), FRAME - 1);
        CHECK.due("DELAY in the last cycle", board.v(19), 2);
        CHECK.due("TONE in the last cycle", board.v(20), 255);
        board.run(1);
        CHECK.due("DELAY after a frame", board.v(19), 1);
        CHECK.due("TONE after a frame", board.v(20), 254);
        board.run(FRAME);
        CHECK.due("DELAY after two", board.v(19), 0);
        board.run(FRAME);
        CHECK.due("DELAY after three", board.v(19), 0);
        CHECK.due("TONE after three", board.v(20), 252);
        CHECK.due("video(3) after three", board.video(3), 3);
        board.chip(1);
        for (int want : new int[] {1, 0, 0}) {
            board.run(FRAME);
            CHECK.due("TONE from 2 on", board.v(20), want);
        }
    }
}
