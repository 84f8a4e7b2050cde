/** One instruction of the processor, or one step of the language, and all that it changes. */
final class Turn {
    private static final int FIRST_PC = 512;

    private Turn() {
    }

    /** At 0x130 by R3, with M(X) at 0x240 by R5; RP grows by 1 unless want tells another R3. */
    static void op(Check check, int code, String before, String want) {
        String base = "P=3 R3=0x130 X=5 R5=0x240 M0x130=" + code;
        act(check, code >> 4 == 12 ? 3 : 2, base + " " + before, "R3=0x131 " + want);
    }

    /** A board with these parts runs one instruction of so many cycles; video is off. */
    static void act(Check check, int cycles, String before, String want) {
        Board board = Board.with(before);
        check.changes("run(1) with " + before, board,
                () -> check.due("run(1) with " + before, board.run(1), cycles), "PLACE=" + cycles + " " + want);
    }

    /** The last of these steps from 512 on; PC grows by 2 unless want tells another one. */
    static void step(Check check, String before, String want, int... pairs) {
        Board board = Board.with(before);
        board.pokePairs(FIRST_PC, pairs);
        int last = pairs.length - 1;
        String name = Integer.toHexString(pairs[last]) + " with " + before;
        if (last > 0) {
            check.due("the steps before " + name, board.chip(last), last);
        }
        check.changes(name, board, () -> check.due(name, board.chip(1), 1),
                "PC=" + (FIRST_PC + 2 * pairs.length) + " " + want);
    }
}
