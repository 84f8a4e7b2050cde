/** Promise 6: keys go down and up, for the processor and for the language. */
public final class KeyTest {
    public static void main(String[] args) {
        Check check = new Check();
        for (int k = 0; k < 16; k++) {
            tellsProcessor(check, k);
            tellsLanguage(check, k);
        }
        refusesOthers(check);
        check.end();
    }

    private static void tellsProcessor(Check check, int k) {
        VipBoard board = new VipBoard();
        // OUT 2 of the byte behind it, then one branch on EF3 after the other.
        Check.pokeAll(board, 0, 0xE0, 0x62, 0x10 + k, 0x36, 0x08, 0, 0, 0, 0x36, 0x20);
        check.due("run(4)", board.run(4), 4);
        board.key(k, true);
        board.run(1);
        check.due("R0 with key " + k + " down", board.cpu(0), 8);
        board.key(k, false);
        board.run(1);
        check.due("R0 with key " + k + " up", board.cpu(0), 10);
    }

    private static void tellsLanguage(Check check, int k) {
        VipBoard board = Check.chipProgram(0x6100 + 0x30 + k, 0xE19E, 0x1200, 0xE1A1, 0x1200, 0x6201);
        board.key(k, true);
        check.due("chip(2)", board.chip(2), 2);
        check.due("PC behind E19E with key " + k + " down", board.v(17), 518);
        board.key(k, false);
        board.key((k + 1) % 16, true);
        check.due("chip(1)", board.chip(1), 1);
        check.due("PC behind E1A1 with key " + k + " up", board.v(17), 522);
    }

    private static void refusesOthers(Check check) {
        VipBoard board = Check.chipProgram(0xF10A);
        for (int k : new int[] {-1, 16, Integer.MAX_VALUE, Integer.MIN_VALUE}) {
            check.throwsDue("key(" + k + ", true)", Check.ILLEGAL_ARGUMENT, () -> board.key(k, true));
            check.throwsDue("key(" + k + ", false)", Check.ILLEGAL_ARGUMENT, () -> board.key(k, false));
        }
        check.due("chip(1) with no key down", board.chip(1), 0);
    }
}
