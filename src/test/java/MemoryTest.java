/** Promises 2 and 3: poke and peek. */
public final class MemoryTest {
    public static void main(String[] args) {
        Check check = new Check();
        keepsBytes(check);
        refusesWrongOnes(check);
        check.end();
    }

    private static void keepsBytes(Check check) {
        VipBoard board = new VipBoard();
        board.poke(0, 255);
        board.poke(2047, 1);
        board.poke(1024, 128);
        board.poke(1023, 7);
        check.due("peek(0)", board.peek(0), 255);
        check.due("peek(2047)", board.peek(2047), 1);
        check.due("peek(1024)", board.peek(1024), 128);
        check.due("peek(1023)", board.peek(1023), 7);
        check.due("peek(1)", board.peek(1), 0);
        check.due("peek(2046)", board.peek(2046), 0);
        board.poke(0, 0);
        check.due("peek(0) after poke(0, 0)", board.peek(0), 0);
        check.due("peek(-1)", board.peek(-1), -1);
        check.due("peek(2048)", board.peek(2048), -1);
        check.due("peek(MAX)", board.peek(Integer.MAX_VALUE), -1);
        check.due("peek(MIN)", board.peek(Integer.MIN_VALUE), -1);
    }

    private static void refusesWrongOnes(Check check) {
        VipBoard board = new VipBoard();
        int[][] wrong = {
            {-1, 5}, {2048, 5}, {Integer.MAX_VALUE, 5}, {Integer.MIN_VALUE, 5},
            {0, -1}, {2047, 256}, {3, Integer.MIN_VALUE}, {3, Integer.MAX_VALUE}, {-1, 256},
        };
        for (int[] pair : wrong) {
            check.throwsDue("poke(" + pair[0] + ", " + pair[1] + ")", Check.ILLEGAL_ARGUMENT,
                    () -> board.poke(pair[0], pair[1]));
        }
        for (int address : new int[] {0, 3, 2047}) {
            check.due("peek(" + address + ") after refused pokes", board.peek(address), 0);
        }
    }
}
