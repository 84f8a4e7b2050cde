/** Promise 10: Dxyn, against a screen of single bits. */
public final class DrawTest {
    private static final int SCREEN = 1792;

    private static final Check CHECK = new Check();

    public static void main(String[] args) {
        for (int column : new int[] {0, 1, 7, 8, 55, 56, 57, 63, 64, 130, 255}) {
            for (int row : new int[] {0, 5, 26, 31, 32, 69, 255}) {
                drawsBits(column, row);
            }
        }
        heights();
        coordinatesInFlag();
        bytesOfTheScreen();
        flagTellsLostBitsAlone();
        CHECK.end();
    }

    private static final int[] SPRITE = {0xFF, 0x81, 0xA5, 0x3C, 0x01, 0x80, 0x7E};

    private static void drawsBits(int column, int row) {
        VipBoard board = Check.chipProgram(0xA300, 0x6100 + column, 0x6200 + row, 0xD127, 0xD127);
        Check.pokeAll(board, 0x300, SPRITE);
        board.poke(0x2FF, 0xFF);
        board.poke(0x307, 0xFF);
        boolean[][] bits = new boolean[32][64];
        for (int k = 0; k < 7; k++) {
            for (int b = 0; b < 8; b++) {
                if (row % 32 + k < 32 && column % 64 + b < 64) {
                    bits[row % 32 + k][column % 64 + b] = (SPRITE[k] >> (7 - b) & 1) == 1;
                }
            }
        }
        String name = "at " + column + ", " + row;
        board.poke(0, 0x99);
        CHECK.due("chip(4) " + name, board.chip(4), 4);
        screen(board, name, bits);
        CHECK.due("V15 " + name, board.v(15), 0);
        CHECK.due("peek(1791) " + name, board.peek(1791), 0);
        CHECK.due("peek(0) " + name, board.peek(0), 0x99);
        CHECK.due("I " + name, board.v(16), 0x300);
        board.chip(1);
        CHECK.due("V15 drawn twice " + name, board.v(15), 1);
        CHECK.due("a byte drawn twice " + name,
                board.peek(SCREEN + row % 32 * 8 + column % 64 / 8), 0);
    }

    private static void screen(VipBoard board, String name, boolean[][] bits) {
        for (int row = 0; row < 32; row++) {
            for (int k = 0; k < 8; k++) {
                int want = 0;
                for (int b = 0; b < 8; b++) {
                    want = want * 2 + (bits[row][8 * k + b] ? 1 : 0);
                }
                CHECK.due("byte " + k + " of row " + row + " " + name, board.peek(SCREEN + 8 * row + k), want);
            }
        }
    }

    private static void heights() {
        for (int height : new int[] {0, 1, 15}) {
            VipBoard board = Check.chipProgram(0x6F07, 0xA300, 0xD110 + height);
            for (int k = 0; k < 16; k++) {
                board.poke(0x300 + k, 0x10 + k);
            }
            board.chip(3);
            for (int row = 0; row < 17; row++) {
                CHECK.due("row " + row + " of height " + height, board.peek(SCREEN + 8 * row),
                        row < height ? 0x10 + row : 0);
            }
            CHECK.due("V15 of height " + height, board.v(15), 0);
        }
    }

    private static void coordinatesInFlag() {
        VipBoard board = Check.chipProgram(0x6F10, 0x6203, 0xA300, 0xDF21, 0x6F03, 0x6210, 0xD2F1);
        board.poke(0x300, 0xC0);
        board.chip(4);
        CHECK.due("the byte that DF21 drew", board.peek(SCREEN + 8 * 3 + 2), 0xC0);
        CHECK.due("V15 behind DF21", board.v(15), 0);
        board.chip(3);
        CHECK.due("the byte that D2F1 drew over", board.peek(SCREEN + 8 * 3 + 2), 0);
        CHECK.due("V15 behind D2F1", board.v(15), 1);
    }

    /** I in the screen: the second byte is read when the first has been drawn over it. */
    private static void bytesOfTheScreen() {
        VipBoard board = Check.chipProgram(0xA700, 0x6200, 0x6100, 0x6308, 0xD311);
        board.poke(SCREEN, 0x0F);
        board.chip(5);
        CHECK.due("the byte beside", board.peek(SCREEN + 1), 0x0F);
        board = Check.chipProgram(0xA700, 0x6308, 0x6100, 0xD312);
        board.poke(SCREEN, 0x0F);
        board.poke(SCREEN + 1, 0x33);
        board.poke(SCREEN + 9, 0x01);
        board.chip(4);
        CHECK.due("row 0, drawn over", board.peek(SCREEN + 1), 0x3C);
        CHECK.due("row 1, drawn of what row 0 became", board.peek(SCREEN + 9), 0x3D);
        CHECK.due("V15", board.v(15), 1);
    }

    private static void flagTellsLostBitsAlone() {
        VipBoard board = Check.chipProgram(0xA300, 0x613C, 0xD121, 0x6104, 0xD121, 0x6F05, 0xD121);
        board.poke(0x300, 0xFF);
        board.poke(SCREEN + 7, 0xF0);
        board.poke(SCREEN + 8, 0xF0);
        board.chip(3);
        CHECK.due("the right edge", board.peek(SCREEN + 7), 0xFF);
        CHECK.due("nothing beyond it", board.peek(SCREEN + 8), 0xF0);
        CHECK.due("V15 at the right edge", board.v(15), 0);
        board.poke(SCREEN + 1, 0x10);
        board.chip(2);
        CHECK.due("the left part", board.peek(SCREEN), 0x0F);
        CHECK.due("the right part", board.peek(SCREEN + 1), 0xE0);
        CHECK.due("V15 by the right part", board.v(15), 1);
        board.poke(SCREEN, 0);
        board.poke(SCREEN + 1, 0);
        board.chip(2);
        CHECK.due("V15 with nothing lost", board.v(15), 0);
    }
}
