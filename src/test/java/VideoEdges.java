/** VIDEO: lines, frames, EF1, timers, and when a row is fetched or an interrupt comes. */
final class VideoEdges {
    /** Where next puts its instructions. */
    static final int CODE = 0x180;
    private static final String PART = "VIDEO";
    private static final int LINE = 14;
    private static final int FRAME = 262 * LINE;
    /** A loop of 2 cycles, and a way into it that takes 3 more. */
    private static final int WAIT = 0x101;
    private static final int WAIT_ODD = 0x100;

    private VideoEdges() {
    }

    static void all(Edges edges) {
        edges.says(PART, "VIDEO: a FRAME has 262 LINES of 14 cycles;", VideoEdges::lines);
        edges.says(PART, "OUT to port 1 turns it off,", VideoEdges::turnsOff);
        edges.says(PART, "IN from port 1 on (off at first).", VideoEdges::turnsOn);
        edges.says(PART, "Time goes on, whether it is on or off.", VideoEdges::timeGoesOn);
        edges.says(PART, "Line and place in it are 0 at first.", VideoEdges::beginning);
        edges.says(PART, "EF1 is on in the lines 60 to 63 and 188 to 191", VideoEdges::flagByItsLines);
        edges.says(PART, "EF1 is on in the lines 60 to 63 and 188 to 191", VideoEdges::branchByFlag);
        edges.says(PART, "while video is on.", VideoEdges::noFlagWhileOff);
        fetches(edges);
        interrupts(edges);
        edges.says(PART, "At the end of each frame (when line 261 is over) the TIMERS", VideoEdges::timersAtTheEnd);
        edges.says(PART, "if they are above 0, fall by 1.", VideoEdges::timersAtZero);
    }

    private static void fetches(Edges edges) {
        edges.says(PART, "Whenever an instruction or an idle cycle is over,", VideoEdges::fetchBehindEach);
        edges.says(PART, "and video is on:", VideoEdges::noFetchWhileOff);
        edges.says(PART, "if the line is one of 64 to 191,", VideoEdges::fetchLines);
        edges.says(PART, "and it has not been FETCHED,", VideoEdges::fetchOnce);
        edges.says(PART, "and the place is 2 or more:", VideoEdges::fetchPlaces);
        edges.says(PART, "8 cycles are taken,", VideoEdges::fetchCycles);
        edges.says(PART, "in each of which M(0) becomes the next byte, 0 to 7,", VideoEdges::fetchBytes);
        edges.says(PART, "of the row line - 64 of the SCREEN,", VideoEdges::fetchRows);
        edges.says(PART, "and R0 grows by 1;", VideoEdges::fetchMovesR0);
        edges.says(PART, "the line has been fetched,", VideoEdges::fetchOverTheEnd);
        edges.says(PART, "of the row line - 64 of the SCREEN, and R0 grows by 1; the line has been fetched, "
                + "and IDLE ends.", VideoEdges::fetchEndsIdle);
    }

    private static void interrupts(Edges edges) {
        edges.says(PART, "Otherwise, if the line is 62 or 63,", VideoEdges::interruptLines);
        edges.says(PART, "Otherwise, if the line is 62 or 63,", VideoEdges::noInterruptWhileOff);
        edges.says(PART, "IE is 1,", VideoEdges::interruptAllowed);
        edges.says(PART, "and there was no INTERRUPT in this frame:", VideoEdges::interruptOnce);
        edges.says(PART, "and there was no INTERRUPT in this frame:", VideoEdges::interruptInNextFrame);
        edges.says(PART, "T becomes 16 * X + P, X 2, P 1, IE 0;", VideoEdges::interruptChanges);
        edges.says(PART, "it takes 1 cycle,", VideoEdges::interruptCycle);
        edges.says(PART, "it takes 1 cycle, and IDLE ends.", VideoEdges::interruptEndsIdle);
    }

    /** A board in the waiting loop with video off, at this place of its first frame. */
    static Board at(int line, int place) {
        int time = LINE * line + place;
        Board board = Board.with("P=3 X=5 R5=0x240 M0x100=0xC4 M0x101=0x30 M0x102=0x01 R3="
                + (time % 2 == 1 ? WAIT_ODD : WAIT));
        if (time > 0) {
            board.run(time);
        }
        return board;
    }

    /** The instruction that R3 finds next. */
    static void next(Board board, int... bytes) {
        board.pokeAll(CODE, bytes);
        board.set(3, CODE);
    }

    /** A board whose next instruction turns video on, and is over at this place. */
    private static Board turningOn(int line, int place, int ie) {
        int time = LINE * line + place - 2;
        Board board = at(time / LINE, time % LINE);
        next(board, 0x69);
        board.set(21, ie);
        return board;
    }

    /** The same behind that instruction, and behind what video did then. */
    static Board on(int line, int place, int ie) {
        Board board = turningOn(line, place, ie);
        board.run(1);
        return board;
    }

    private static void runs(Check check, String name, Board board, int n, int want, String changes) {
        check.changes(name, board, () -> check.due(name + ": run(" + n + ")", board.run(n), want), changes);
    }

    private static String place(int line, int place) {
        return " LINE=" + line + " PLACE=" + place;
    }

    private static void lines(Check check) {
        runs(check, "line 0, place 11", at(0, 11), 1, 2, place(0, 13));
        runs(check, "line 0, place 12", at(0, 12), 1, 2, place(1, 0));
        runs(check, "line 0, place 13", at(0, 13), 1, 2, place(1, 1));
        runs(check, "line 260, place 12", at(260, 12), 1, 2, place(261, 0));
        runs(check, "line 261, place 11", at(261, 11), 1, 2, place(261, 13));
        runs(check, "line 261, place 12", at(261, 12), 1, 2, place(0, 0) + " FRAMES=1");
        runs(check, "line 261, place 13", at(261, 13), 1, 2, place(0, 1) + " FRAMES=1");
        runs(check, "a frame from line 0 on", at(0, 0), FRAME, FRAME, place(0, 0) + " FRAMES=1");
        runs(check, "a frame but for a line", at(5, 6), FRAME - LINE, FRAME - LINE, place(4, 6) + " FRAMES=1");
    }

    private static void turnsOff(Check check) {
        for (int value : new int[] {0, 255}) {
            Board board = on(10, 0, 0);
            board.poke(0x240, value);
            next(board, 0x61);
            runs(check, "61 of " + value, board, 1, 2, "ON=0 R3=0x181 R5=0x241 PLACE=2");
        }
        for (int port = 2; port <= 7; port++) {
            Board board = on(10, 0, 0);
            next(board, 0x60 + port);
            runs(check, "OUT to port " + port, board, 1, 2, "R3=0x181 R5=0x241 PLACE=2");
        }
        Board board = at(10, 0);
        next(board, 0x61);
        runs(check, "61 while off", board, 1, 2, "R3=0x181 R5=0x241 PLACE=2");
    }

    private static void turnsOn(Check check) {
        check.due("video(0) at first", new Board().video(0), 0);
        for (int port = 1; port <= 7; port++) {
            Board board = at(10, 0);
            next(board, 0x68 + port);
            runs(check, "IN from port " + port, board, 1, 2, "R3=0x181 PLACE=2" + (port == 1 ? " ON=1" : ""));
        }
        for (int port = 1; port <= 7; port++) {
            Board board = on(10, 0, 0);
            next(board, 0x68 + port);
            runs(check, "IN from port " + port + " while on", board, 1, 2, "R3=0x181 PLACE=2");
        }
    }

    private static void timeGoesOn(Check check) {
        Board off = at(10, 0);
        Board on = on(10, 0, 1);
        on.set(3, WAIT);
        on.set(1, WAIT);
        Board idle = at(10, 0);
        next(idle, 0x00);
        for (Board board : new Board[] {off, on, idle}) {
            int over = 10 * LINE;
            for (int n : new int[] {4000, 1, 3999, 3668, 7}) {
                over += board.run(n);
                check.due("the cycles that are over after run(" + n + ")",
                        board.video(3) * FRAME + board.video(1) * LINE + board.video(2), over);
            }
        }
    }

    private static void beginning(Check check) {
        check.due("video(1)", new Board().video(1), 0);
        check.due("video(2)", new Board().video(2), 0);
        check.due("video(3)", new Board().video(3), 0);
    }

    private static void flagByItsLines(Check check) {
        int[][] rows = {
            {0, 2, 0}, {59, 13, 0}, {60, 0, 1}, {61, 5, 1}, {63, 13, 1}, {64, 0, 0}, {187, 1, 0},
            {188, 0, 1}, {189, 1, 1}, {191, 1, 1}, {192, 0, 0}, {261, 13, 0},
        };
        for (int[] row : rows) {
            Board board = on(row[0], row[1], 0);
            check.due("video(1)", board.video(1), row[0]);
            check.due("video(4) in line " + row[0] + ", place " + row[1], board.video(4), row[2]);
        }
    }

    private static void branchByFlag(Check check) {
        int[][] rows = {{59, 0, 0}, {60, 0, 1}, {63, 0, 1}, {64, 0, 0}, {187, 0, 0}, {188, 0, 1}, {191, 0, 1}, {192, 0, 0}};
        for (int[] row : rows) {
            for (int code : new int[] {0x34, 0x3C}) {
                Board board = on(row[0], row[1], 0);
                next(board, code, 0x42);
                board.run(1);
                boolean taken = (row[2] == 1) == (code == 0x34);
                check.due("RP behind " + Integer.toHexString(code) + " in line " + row[0], board.cpu(3),
                        taken ? 0x142 : CODE + 2);
            }
        }
    }

    private static void noFlagWhileOff(Check check) {
        for (int line : new int[] {60, 63, 188, 191}) {
            check.due("video(4) in line " + line + " while off", at(line, 5).video(4), 0);
            Board board = on(line, 0, 0);
            next(board, 0x61);
            check.due("video(4) in line " + line + " while on", board.video(4), 1);
            board.run(1);
            check.due("video(4) in line " + line + " behind OUT", board.video(4), 0);
        }
        Board board = at(60, 0);
        next(board, 0x34, 0x42);
        board.run(1);
        check.due("RP behind 34 in line 60 while off", board.cpu(3), CODE + 2);
    }

    private static void fetchBehindEach(Check check) {
        runs(check, "behind IN", turningOn(64, 2, 0), 1, 10, "ON=1 R3=0x181 R0=8" + place(64, 10));
        Board board = on(64, 0, 0);
        next(board, 0x17);
        runs(check, "behind 2 cycles", board, 1, 10, "R3=0x181 R7=1 R0=8" + place(64, 10));
        board = on(64, 1, 0);
        next(board, 0xC4);
        runs(check, "behind 3 cycles", board, 1, 11, "R3=0x181 R0=8" + place(64, 12));
        board = on(63, 0, 0);
        next(board, 0x00);
        runs(check, "before the place", board, 15, 15, "R3=0x181 IDLE=1 EF1=0" + place(64, 1));
        runs(check, "behind an idle cycle", board, 1, 9, "IDLE=0 R0=8" + place(64, 10));
    }

    private static void noFetchWhileOff(Check check) {
        runs(check, "off in line 64", at(64, 0), 1, 2, place(64, 2));
        runs(check, "off in the lines 64 to 191", at(64, 0), 128 * LINE, 128 * LINE, place(192, 0));
        Board board = on(64, 0, 0);
        next(board, 0x61);
        runs(check, "OUT itself", board, 1, 2, "ON=0 R3=0x181 R5=0x241" + place(64, 2));
    }

    private static void fetchLines(Check check) {
        runs(check, "line 0", turningOn(0, 2, 0), 1, 2, "ON=1 R3=0x181" + place(0, 2));
        runs(check, "line 63", turningOn(63, 2, 0), 1, 2, "ON=1 R3=0x181 EF1=1" + place(63, 2));
        runs(check, "line 63 at its end", turningOn(63, 13, 0), 1, 2, "ON=1 R3=0x181 EF1=1" + place(63, 13));
        runs(check, "line 64", turningOn(64, 2, 0), 1, 10, "ON=1 R3=0x181 R0=8" + place(64, 10));
        runs(check, "line 191", turningOn(191, 2, 0), 1, 10, "ON=1 R3=0x181 R0=8 EF1=1" + place(191, 10));
        runs(check, "line 192", turningOn(192, 2, 0), 1, 2, "ON=1 R3=0x181" + place(192, 2));
        runs(check, "line 261", turningOn(261, 2, 0), 1, 2, "ON=1 R3=0x181" + place(261, 2));
    }

    private static void fetchOnce(Check check) {
        Board board = on(100, 2, 0);
        next(board, 0x17);
        runs(check, "again in line 100", board, 1, 2, "R3=0x181 R7=1" + place(100, 12));
        board = on(100, 2, 0);
        next(board, 0x69);
        runs(check, "turned on once more in line 100", board, 1, 2, "R3=0x181" + place(100, 12));
        board = on(100, 2, 0);
        next(board, 0x61, 0x69);
        runs(check, "off in line 100", board, 1, 2, "ON=0 R3=0x181 R5=0x241" + place(100, 12));
        runs(check, "on again in line 101", board, 1, 2, "ON=1 R3=0x182" + place(101, 0));
        next(board, 0x17);
        runs(check, "line 101", board, 1, 10, "R3=0x181 R7=1 R0=16" + place(101, 10));
        board = on(100, 2, 0);
        next(board, 0x00);
        runs(check, "idle in a fetched line", board, 5, 5, "IDLE=1 R3=0x181" + place(101, 1));
        runs(check, "idle until the next line", board, 1, 9, "IDLE=0 R0=16" + place(101, 10));
        board = on(100, 2, 0);
        next(board, 0x61);
        board.run(1);
        board.set(3, WAIT);
        board.run(FRAME - 12);
        next(board, 0x69);
        runs(check, "the same line a frame later", board, 1, 10, "ON=1 R3=0x181 R0=16" + place(100, 10));
    }

    private static void fetchPlaces(Check check) {
        runs(check, "place 0", turningOn(100, 0, 0), 1, 2, "ON=1 R3=0x181" + place(100, 0));
        runs(check, "place 1", turningOn(100, 1, 0), 1, 2, "ON=1 R3=0x181" + place(100, 1));
        runs(check, "place 2", turningOn(100, 2, 0), 1, 10, "ON=1 R3=0x181 R0=8" + place(100, 10));
        runs(check, "place 3", turningOn(100, 3, 0), 1, 10, "ON=1 R3=0x181 R0=8" + place(100, 11));
        runs(check, "place 13", turningOn(100, 13, 0), 1, 10, "ON=1 R3=0x181 R0=8" + place(101, 7));
    }

    private static void fetchCycles(Check check) {
        runs(check, "up to the line's end", turningOn(100, 5, 0), 1, 10, "ON=1 R3=0x181 R0=8" + place(100, 13));
        runs(check, "with the line's end", turningOn(100, 6, 0), 1, 10, "ON=1 R3=0x181 R0=8" + place(101, 0));
        Board board = on(63, 12, 0);
        board.set(3, WAIT);
        check.due("run(1804) in all shown lines", board.run(1804), 1804);
        check.due("R0 behind all shown lines", board.cpu(0), 8 * 128);
        check.due("video(1) behind all shown lines", board.video(1), 192);
    }

    private static void fetchBytes(Check check) {
        Board board = turningOn(64, 2, 0);
        board.pokeAll(0x3FF, 0x99, 0x01, 0x80, 0xFF, 0x00, 0x55, 0xAA, 0x7F, 0xFE, 0x98);
        board.set(0, 0x400);
        runs(check, "eight bytes", board, 1, 10, "ON=1 R3=0x181 R0=0x408" + place(64, 10)
                + " S0.0=0x01 S0.1=0x80 S0.2=0xFF S0.3=0 S0.4=0x55 S0.5=0xAA S0.6=0x7F S0.7=0xFE");
    }

    private static void fetchRows(Check check) {
        for (int line : new int[] {64, 65, 127, 128, 190, 191}) {
            Board board = turningOn(line, 2, 0);
            board.poke(0x400, 0xFF);
            board.poke(0x407, 0x42);
            board.set(0, 0x400);
            String flag = line >= 188 ? " EF1=1" : "";
            runs(check, "line " + line, board, 1, 10, "ON=1 R3=0x181 R0=0x408" + flag + place(line, 10)
                    + " S" + (line - 64) + ".0=0xFF S" + (line - 64) + ".7=0x42");
        }
    }

    private static void fetchMovesR0(Check check) {
        Board board = turningOn(64, 2, 0);
        board.pokeAll(2044, 0x11, 0x12, 0x13, 0x14);
        board.pokeAll(0, 0x15, 0x16, 0x17, 0x18);
        board.set(0, 65532);
        runs(check, "R0 from 65532", board, 1, 10, "ON=1 R3=0x181 R0=4" + place(64, 10)
                + " S0.0=0x11 S0.1=0x12 S0.2=0x13 S0.3=0x14 S0.4=0x15 S0.5=0x16 S0.6=0x17 S0.7=0x18");
        board = turningOn(64, 2, 0);
        board.set(18, 0);
        board.set(0, CODE);
        board.poke(CODE + 1, 0x21);
        board.poke(CODE + 9, 0x17);
        runs(check, "R0 as the program counter", board, 1, 10, "ON=1 R0=0x189 S0.0=0x21" + place(64, 10));
        runs(check, "R0 as the program counter then", board, 1, 2, "R0=0x18A R7=1" + place(64, 12));
    }

    private static void fetchOverTheEnd(Check check) {
        Board board = turningOn(100, 13, 0);
        board.pokeAll(0x400, 1, 2, 3, 4, 5, 6, 7, 8);
        board.set(0, 0x400);
        runs(check, "all eight belong to line 100", board, 1, 10, "ON=1 R3=0x181 R0=0x408" + place(101, 7)
                + " S36.0=1 S36.1=2 S36.2=3 S36.3=4 S36.4=5 S36.5=6 S36.6=7 S36.7=8");
        next(board, 0x17);
        runs(check, "line 101 has not been fetched", board, 1, 10, "R3=0x181 R7=1 R0=0x410" + place(102, 3));
        board = on(191, 13, 0);
        next(board, 0x17);
        runs(check, "line 192 is not fetched", board, 1, 2, "R3=0x181 R7=1" + place(192, 9));
    }

    private static void fetchEndsIdle(Check check) {
        Board board = on(64, 0, 0);
        next(board, 0x00, 0x17);
        runs(check, "IDLE itself", board, 1, 10, "R3=0x181 R0=8 IDLE=0" + place(64, 10));
        runs(check, "the instruction behind it", board, 1, 2, "R3=0x182 R7=1" + place(64, 12));
        board = on(192, 0, 0);
        next(board, 0x00);
        board.run(1);
        int left = (262 - 192 + 64) * LINE + 1 - 2;
        check.due("idle from line 192 on", board.run(left), left);
        check.due("cpu(23) before line 64, place 2", board.cpu(23), 1);
        runs(check, "idle in line 64", board, 1, 9, "R0=8 IDLE=0" + place(64, 10));
        board = at(60, 0);
        next(board, 0x00);
        check.due("run(4000) while idle and off", board.run(4000), 4000);
        check.due("cpu(23) while off", board.cpu(23), 1);
    }

    private static final String INTERRUPTED = "ON=1 R3=0x181 T=0x53 X=2 P=1 IE=0";

    private static void interruptLines(Check check) {
        runs(check, "line 0", turningOn(0, 2, 1), 1, 2, "ON=1 R3=0x181" + place(0, 2));
        runs(check, "line 61 at its end", turningOn(61, 13, 1), 1, 2, "ON=1 R3=0x181 EF1=1" + place(61, 13));
        runs(check, "line 62", turningOn(62, 0, 1), 1, 3, INTERRUPTED + " EF1=1" + place(62, 1));
        runs(check, "line 63", turningOn(63, 0, 1), 1, 3, INTERRUPTED + " EF1=1" + place(63, 1));
        runs(check, "line 63 at its end", turningOn(63, 13, 1), 1, 3, INTERRUPTED + place(64, 0));
        runs(check, "line 64", turningOn(64, 0, 1), 1, 2, "ON=1 R3=0x181" + place(64, 0));
        runs(check, "line 64 with a fetch", turningOn(64, 2, 1), 1, 10, "ON=1 R3=0x181 R0=8" + place(64, 10));
        runs(check, "line 191", turningOn(191, 1, 1), 1, 2, "ON=1 R3=0x181 EF1=1" + place(191, 1));
        runs(check, "line 261", turningOn(261, 0, 1), 1, 2, "ON=1 R3=0x181" + place(261, 0));
    }

    private static void noInterruptWhileOff(Check check) {
        runs(check, "off in line 62", at(62, 0), 1, 2, place(62, 2));
        runs(check, "off in line 63", at(63, 0), 1, 2, place(63, 2));
        Board board = on(61, 12, 1);
        next(board, 0x61);
        runs(check, "OUT itself", board, 1, 2, "ON=0 EF1=0 R3=0x181 R5=0x241" + place(62, 0));
    }

    private static void interruptAllowed(Check check) {
        runs(check, "IE 0 in line 62", turningOn(62, 0, 0), 1, 2, "ON=1 R3=0x181 EF1=1" + place(62, 0));
        Board board = on(62, 0, 0);
        next(board, 0x17);
        board.set(21, 1);
        runs(check, "IE 1 later", board, 1, 3, "R3=0x181 R7=1 T=0x53 X=2 P=1 IE=0" + place(62, 3));
        board = on(63, 10, 0);
        board.poke(0x240, 0x53);
        next(board, 0x70);
        runs(check, "IE 1 by 70", board, 1, 3, "R3=0x181 R5=0x241 T=0x53 X=2 P=1 IE=0" + place(63, 13));
        board = on(61, 12, 1);
        board.poke(0x240, 0x53);
        next(board, 0x71);
        runs(check, "IE 0 by 71", board, 1, 2, "R3=0x181 R5=0x241 IE=0" + place(62, 0));
    }

    /** Interrupted at line 62, then back to P 3, X 5 and IE 1. */
    private static Board backFromInterrupt() {
        Board board = on(62, 0, 1);
        board.set(18, 3);
        board.set(19, 5);
        board.set(20, 0);
        board.set(21, 1);
        return board;
    }

    private static void interruptOnce(Check check) {
        Board board = backFromInterrupt();
        next(board, 0x17);
        runs(check, "again in line 62", board, 1, 2, "R3=0x181 R7=1" + place(62, 3));
        board.set(3, WAIT);
        runs(check, "again in line 63", board, 20, 20, "R3=0x101" + place(63, 9));
        board = backFromInterrupt();
        next(board, 0x61, 0x69);
        runs(check, "off", board, 1, 2, "ON=0 EF1=0 R3=0x181 R5=0x241" + place(62, 3));
        runs(check, "on again", board, 1, 2, "ON=1 EF1=1 R3=0x182" + place(62, 5));
    }

    private static void interruptInNextFrame(Check check) {
        Board board = backFromInterrupt();
        next(board, 0x61);
        board.run(1);
        board.set(3, WAIT);
        check.due("run until the next frame's line 61", board.run(FRAME - 4), FRAME - 4);
        next(board, 0x69);
        runs(check, "the next frame's line 62", board, 1, 3, INTERRUPTED + " EF1=1" + place(62, 2));
    }

    private static void interruptChanges(Check check) {
        int[][] rows = {{15, 15}, {0, 0}, {15, 0}, {0, 15}, {2, 1}};
        for (int[] row : rows) {
            Board board = turningOn(62, 0, 1);
            board.set(19, row[0]);
            board.set(18, row[1]);
            board.set(row[1], CODE);
            board.set(20, 0x77);
            runs(check, "X " + row[0] + ", P " + row[1], board, 1, 3, "ON=1 EF1=1 R" + row[1] + "=0x181 X=2 P=1 IE=0 T="
                    + (16 * row[0] + row[1]) + place(62, 1));
        }
        Board board = on(62, 0, 1);
        board.set(1, CODE + 8);
        board.poke(CODE + 8, 0x17);
        runs(check, "the next instruction is that of R1", board, 1, 2, "R1=0x189 R7=1" + place(62, 3));
    }

    private static void interruptCycle(Check check) {
        runs(check, "place 12", turningOn(62, 12, 1), 1, 3, INTERRUPTED + " EF1=1" + place(62, 13));
        runs(check, "place 13", turningOn(62, 13, 1), 1, 3, INTERRUPTED + " EF1=1" + place(63, 0));
        runs(check, "run(3) with the interrupt's", turningOn(62, 0, 1), 3, 3, INTERRUPTED + " EF1=1" + place(62, 1));
    }

    private static void interruptEndsIdle(Check check) {
        Board board = on(50, 0, 1);
        next(board, 0x00);
        runs(check, "idle up to line 61's end", board, 167, 167, "IDLE=1 EF1=1 R3=0x181" + place(61, 13));
        runs(check, "idle in line 62", board, 1, 2, "IDLE=0 T=0x53 X=2 P=1 IE=0" + place(62, 1));
        board = on(61, 12, 1);
        next(board, 0x00);
        runs(check, "IDLE itself", board, 1, 3, "IDLE=0 R3=0x181 T=0x53 X=2 P=1 IE=0" + place(62, 1));
        board = on(50, 0, 0);
        next(board, 0x00);
        board.run(14 * LINE);
        check.due("cpu(23) with IE 0 in line 64, place 0", board.cpu(23), 1);
    }

    /** At this place with these timers, in the waiting loop. */
    private static Board timed(int line, int place, int delay, int tone) {
        Board board = at(line, place);
        board.pokePairs(512, 0x6100 + delay, 0x6200 + tone, 0xF115, 0xF218);
        board.chip(4);
        board.set(3, WAIT);
        return board;
    }

    private static void timersAtTheEnd(Check check) {
        runs(check, "line 260's end", timed(260, 12, 255, 7), 1, 2, place(261, 0));
        runs(check, "line 261 but for a cycle", timed(261, 11, 255, 7), 1, 2, place(261, 13));
        runs(check, "line 261's end", timed(261, 12, 255, 7), 1, 2, place(0, 0) + " FRAMES=1 DELAY=254 TONE=6");
        runs(check, "line 0's end", timed(0, 12, 255, 7), 1, 2, place(1, 0));
        runs(check, "two frames' ends", timed(261, 12, 255, 7), FRAME + 2, FRAME + 2,
                place(0, 0) + " FRAMES=2 DELAY=253 TONE=5");
        runs(check, "one frame's end", timed(261, 12, 255, 7), FRAME, FRAME, place(261, 12) + " FRAMES=1 DELAY=254 TONE=6");
        Board board = on(261, 10, 0);
        board.pokePairs(512, 0x6109, 0xF115);
        board.chip(2);
        board.set(3, WAIT);
        runs(check, "while on", board, 4, 4, place(0, 0) + " R3=0x101 FRAMES=1 DELAY=8");
        Board stepping = timed(261, 12, 255, 7);
        stepping.pokePairs(520, 0x1208);
        check.changes("no frame ends by steps", stepping, () -> stepping.chip(200), "");
    }

    private static void timersAtZero(Check check) {
        runs(check, "both 0", timed(261, 12, 0, 0), 1, 2, place(0, 0) + " FRAMES=1");
        runs(check, "both 1", timed(261, 12, 1, 1), 1, 2, place(0, 0) + " FRAMES=1 DELAY=0 TONE=0");
        runs(check, "DELAY 0", timed(261, 12, 0, 2), 1, 2, place(0, 0) + " FRAMES=1 TONE=1");
        runs(check, "TONE 0", timed(261, 12, 2, 0), 1, 2, place(0, 0) + " FRAMES=1 DELAY=1");
        runs(check, "1 over two frames", timed(261, 12, 1, 1), FRAME + 2, FRAME + 2,
                place(0, 0) + " FRAMES=2 DELAY=0 TONE=0");
    }
}
