/** Promise 1: what a new object holds. */
public final class NewBoardTest {
    public static void main(String[] args) {
        Check check = new Check();
        VipBoard board = new VipBoard();
        for (int what = 0; what <= 23; what++) {
            check.due("cpu(" + what + ")", board.cpu(what), what == 21 ? 1 : 0);
        }
        for (int what = 0; what <= 5; what++) {
            check.due("video(" + what + ")", board.video(what), 0);
        }
        for (int what = 0; what <= 21; what++) {
            check.due("v(" + what + ")", board.v(what), what == 17 ? 512 : 0);
        }
        memoryIsZero(check);
        screenIsZero(check);
        boardsShareNothing(check);
        check.end();
    }

    private static void memoryIsZero(Check check) {
        VipBoard board = new VipBoard();
        for (int address = 0; address < 2048; address++) {
            // An object is good for 512 calls.
            if (address % 400 == 0) {
                board = new VipBoard();
            }
            check.due("peek(" + address + ")", board.peek(address), 0);
        }
    }

    private static void screenIsZero(Check check) {
        VipBoard board = new VipBoard();
        for (int row = 0; row < 128; row++) {
            if (row % 50 == 0) {
                board = new VipBoard();
            }
            for (int k = 0; k < 8; k++) {
                check.due("shown(" + row + ", " + k + ")", board.shown(row, k), 0);
            }
        }
    }

    private static void boardsShareNothing(Check check) {
        VipBoard used = new VipBoard();
        used.poke(5, 9);
        used.set(3, 77);
        used.start(100);
        used.key(4, true);
        VipBoard board = new VipBoard();
        check.due("peek(5) of another board", board.peek(5), 0);
        check.due("cpu(3) of another board", board.cpu(3), 0);
        check.due("v(17) of another board", board.v(17), 512);
        board.poke(512, 0xF1);
        board.poke(513, 0x0A);
        check.due("chip(1) of another board finds no key", board.chip(1), 0);
    }
}
