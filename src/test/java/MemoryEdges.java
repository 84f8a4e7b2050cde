/** MEMORY, promises 2 and 3, and how long an object is used. */
final class MemoryEdges {
    private static final int[] NO_ADDRESSES = {-1, 2048, 4095, 65535, Integer.MAX_VALUE, Integer.MIN_VALUE};
    private static final int[] NO_BYTES = {-1, 256, 65535, Integer.MAX_VALUE, Integer.MIN_VALUE};

    private MemoryEdges() {
    }

    static void all(Edges edges) {
        edges.says("An object", "An object is used for at most 512 calls after it has been made; "
                + "what later calls answer is free.", MemoryEdges::lastCall);
        edges.says("MEMORY", "MEMORY: 2048 bytes", MemoryEdges::bytesOfTheirOwn);
        edges.says("MEMORY", "0 .. 255", MemoryEdges::leastAndMost);
        edges.says("MEMORY", "at first 0", MemoryEdges::zeroAtFirst);
        edges.says("MEMORY", "an ADDRESS counts by its lowest 11 bits.", MemoryEdges::registersAsAddresses);
        edges.says("MEMORY", "an ADDRESS counts by its lowest 11 bits.", MemoryEdges::programCounters);
        edges.says("MEMORY", "an ADDRESS counts by its lowest 11 bits.", MemoryEdges::indexAsAddress);
        edges.says("MEMORY", "A PAIR at an address: that byte times 256 plus the next one.", MemoryEdges::pairs);
        edges.says("Promise 2", "A byte of memory.", MemoryEdges::pokesFirstAndLast);
        edges.says("Promise 2", "Throws IllegalArgumentException when address is not 0 .. 2047",
                MemoryEdges::pokeRefusesAddresses);
        edges.says("Promise 2", "or v not 0 .. 255.", MemoryEdges::pokeRefusesBytes);
        edges.says("Promise 3", "A byte of memory;", MemoryEdges::peeksFirstAndLast);
        edges.says("Promise 3", "-1 when address is not 0 .. 2047.", MemoryEdges::peeksNothing);
    }

    private static void lastCall(Check check) {
        Board board = new Board();
        for (int k = 0; k < 511; k++) {
            board.poke(k, 255 - k % 256);
        }
        check.due("peek(510) as the 512th call", board.peek(510), 1);
        board = new Board();
        int over = 0;
        for (int k = 0; k < 511; k++) {
            over += board.run(4000);
        }
        check.due("the cycles of 511 runs", over, 511 * 4000);
        check.due("video(3) as the 512th call", board.video(3), 511 * 4000 / 3668);
        board = new Board();
        board.pokePairs(512, 0x7101, 0x1200);
        for (int k = 0; k < 507; k++) {
            check.due("chip(200)", board.chip(200), 200);
        }
        check.due("v(1) as the 512th call", board.v(1), 507 * 100 % 256);
    }

    private static void bytesOfTheirOwn(Check check) {
        for (int bit = 0; bit < 11; bit++) {
            for (int address : new int[] {1 << bit, 2047 - (1 << bit)}) {
                Board board = new Board();
                check.changes("poke", board, () -> board.poke(address, 9), "M" + address + "=9");
            }
        }
    }

    private static void leastAndMost(Check check) {
        Board board = new Board();
        for (int value : new int[] {255, 0, 128, 127, 1}) {
            board.poke(700, value);
            check.due("peek(700) after poke(700, " + value + ")", board.peek(700), value);
        }
        Turn.op(check, 0x57, "D=255 R7=700", "M700=255");
        Turn.op(check, 0x57, "D=0 R7=700 M700=255", "M700=0");
    }

    private static void zeroAtFirst(Check check) {
        Board board = new Board();
        for (int address = 0; address < 2048; address++) {
            if (board.callsLeft() == 0) {
                board = new Board();
            }
            check.due("peek(" + address + ")", board.peek(address), 0);
        }
    }

    private static void registersAsAddresses(Check check) {
        Turn.op(check, 0x07, "R7=2047 M2047=0x41 M0=0x42", "D=0x41");
        Turn.op(check, 0x07, "R7=2048 M2047=0x41 M0=0x42", "D=0x42");
        Turn.op(check, 0x07, "R7=65535 M2047=0x41 M0=0x42", "D=0x41");
        Turn.op(check, 0x07, "R7=0xF800 M2047=0x41 M0=0x42", "D=0x42");
        Turn.op(check, 0x57, "R7=2047 D=0x43", "M2047=0x43");
        Turn.op(check, 0x57, "R7=2048 D=0x43", "M0=0x43");
        Turn.op(check, 0x57, "R7=65535 D=0x43", "M2047=0x43");
        Turn.op(check, 0xF0, "R5=0x8240 M0x240=0x44", "D=0x44");
        Turn.op(check, 0x79, "R2=2048", "M0=0x53 T=0x53 X=3 R2=2047");
    }

    private static void programCounters(Check check) {
        Turn.act(check, 2, "R0=2048 M0=0xE7", "R0=2049 X=7");
        Turn.act(check, 2, "R0=65535 M2047=0xE7", "R0=0 X=7");
        Turn.act(check, 2, "R0=0x1FFF M2047=0xF8 M0=0x45", "R0=0x2001 D=0x45");
        for (int pc : new int[] {0x7FE, 0x800, 0xA10, 0xFFC}) {
            Board board = new Board();
            board.pokePairs(512, 0x1000 + pc);
            board.pokePairs(pc % 2048, 0x6146);
            board.start(512);
            board.chip(1);
            check.changes("6146 at " + pc, board, () -> check.due("chip(1)", board.chip(1), 1),
                    "V1=0x46 PC=" + (pc + 2));
        }
    }

    private static void indexAsAddress(Check check) {
        Turn.step(check, "", "M2047=0x47 I=2048", 0x6047, 0xA7FF, 0xF055);
        Turn.step(check, "", "M0=0x47 I=2049", 0x6047, 0xA800, 0xF055);
        Turn.step(check, "", "M2047=0x47 I=0", 0x6047, 0xAFFF, 0xF055);
        Turn.step(check, "M2047=0x48", "V0=0x48 I=0", 0xAFFF, 0xF065);
        Turn.step(check, "M0=0x49", "V0=0x49 I=2049", 0xA800, 0xF065);
        Turn.step(check, "M0=0x81", "M1792=0x81 V15=0", 0xA800, 0xD001);
        Turn.step(check, "", "M0=2 M1=5 M2=5", 0x60FF, 0xA800, 0xF033);
    }

    private static void pairs(Check check) {
        Turn.step(check, "", "V1=0xFF", 0x61FF);
        Turn.act(check, 3, "R0=0x130 M0x130=0xC0 M0x131=0xFF M0x132=0", "R0=0xFF00");
        Turn.act(check, 3, "R0=0x130 M0x130=0xC0 M0x131=0 M0x132=0xFF", "R0=0x00FF");
        Turn.act(check, 3, "R0=2046 M2046=0xC0 M2047=0x12 M0=0x34", "R0=0x1234");
        Turn.act(check, 3, "R0=2047 M2047=0xC0 M0=0x12 M1=0x34", "R0=0x1234");
        Board board = Board.with("M2047=0x61 M0=0x23 PC=2047");
        check.changes("the pair at 2047", board, () -> board.chip(1), "V1=0x23 PC=2049");
    }

    private static void pokesFirstAndLast(Check check) {
        for (int address : new int[] {0, 2047}) {
            for (int value : new int[] {0, 255}) {
                Board board = CallEdges.idleAndFull();
                board.poke(address, 7);
                check.changes("poke(" + address + ", " + value + ")", board, () -> board.poke(address, value),
                        "IDLE=1 M" + address + "=" + value);
            }
        }
    }

    private static void pokeRefusesAddresses(Check check) {
        for (int address : NO_ADDRESSES) {
            Board board = CallEdges.busy();
            check.refused("poke(" + address + ", 5)", board, Check.ILLEGAL_ARGUMENT, () -> board.poke(address, 5));
        }
    }

    private static void pokeRefusesBytes(Check check) {
        for (int value : NO_BYTES) {
            for (int address : new int[] {0, 700, 2047}) {
                Board board = CallEdges.busy();
                check.refused("poke(" + address + ", " + value + ")", board, Check.ILLEGAL_ARGUMENT,
                        () -> board.poke(address, value));
            }
        }
        Board board = CallEdges.busy();
        check.refused("poke(2048, 256)", board, Check.ILLEGAL_ARGUMENT, () -> board.poke(2048, 256));
    }

    private static void peeksFirstAndLast(Check check) {
        Board board = Board.with("M0=255 M1=1 M2046=2 M2047=254");
        check.changes("peek", board, () -> {
            check.due("peek(0)", board.peek(0), 255);
            check.due("peek(2047)", board.peek(2047), 254);
        }, "");
    }

    private static void peeksNothing(Check check) {
        Board board = Board.with("M0=255 M2047=254");
        check.changes("peek", board, () -> {
            for (int address : NO_ADDRESSES) {
                check.due("peek(" + address + ")", board.peek(address), -1);
            }
        }, "");
    }
}
