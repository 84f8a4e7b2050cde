/** KEYS and promise 6. */
final class KeyEdges {
    private KeyEdges() {
    }

    static void all(Edges edges) {
        edges.says("KEYS", "KEYS 0 .. 15 are down or not.", KeyEdges::upAtFirst);
        edges.says("KEYS", "OUT to port 2 keeps the low four bits of the byte as the key that EF3 tells:",
                KeyEdges::keepsLowBits);
        edges.says("KEYS", "it is on while that one is down", KeyEdges::tellsThatKeyAlone);
        edges.says("KEYS", "(0 at first).", KeyEdges::tellsKeyZeroAtFirst);
        edges.says("KEYS", "EF2 and EF4 are off.", KeyEdges::otherLines);
        edges.says("Promise 6", "A key goes down or up.", KeyEdges::downAndUp);
        edges.says("Promise 6", "Throws IllegalArgumentException when there is none.", KeyEdges::refusesOthers);
    }

    private static void upAtFirst(Check check) {
        for (int k = 0; k < 16; k++) {
            Turn.step(check, "", "", 0x6000 + k, 0xE09E);
            Turn.step(check, "K" + k + "=1", "PC=518", 0x6000 + k, 0xE09E);
        }
    }

    private static void keepsLowBits(Check check) {
        int[][] rows = {{0x00, 0}, {0x0F, 15}, {0x10, 0}, {0xF0, 0}, {0xFF, 15}, {0x89, 9}};
        for (int[] row : rows) {
            Turn.op(check, 0x62, "M0x240=" + row[0], "R5=0x241 KEY=" + row[1]);
        }
        for (int port : new int[] {1, 3, 4, 5, 6, 7}) {
            Turn.op(check, 0x60 + port, "M0x240=255", "R5=0x241");
        }
        Turn.op(check, 0x6A, "M0x240=255", "M0x240=0");
        Board board = Board.with("R0=0x130 M0x130=0x62 M0x131=0x63 X=5 R5=0x240 M0x240=9 M0x241=4");
        board.run(4);
        check.due("video(5) behind OUT to ports 2 and 3", board.video(5), 9);
    }

    /** A board that asks for this key, just before a branch on EF3. */
    private static Board asking(int k) {
        Board board = Board.with("R0=0x130 M0x130=0x62 M0x131=0x36 M0x132=0x80 X=5 R5=0x240 M0x240=" + k);
        board.run(1);
        return board;
    }

    private static void branchesTo(Check check, String name, Board board, int want) {
        board.set(0, 0x131);
        board.run(1);
        check.due("R0 behind 36 with " + name, board.cpu(0), want);
    }

    private static void tellsThatKeyAlone(Check check) {
        for (int k = 0; k < 16; k++) {
            Board board = asking(k);
            branchesTo(check, "no key", board, 0x133);
            for (int other = 0; other < 16; other++) {
                board.key(other, other != k);
            }
            branchesTo(check, "all keys but " + k, board, 0x133);
            board.key(k, true);
            branchesTo(check, "all keys", board, 0x180);
            for (int other = 0; other < 16; other++) {
                board.key(other, other == k);
            }
            branchesTo(check, "key " + k + " alone", board, 0x180);
            branchesTo(check, "key " + k + " still", board, 0x180);
            board.key(k, false);
            branchesTo(check, "key " + k + " up again", board, 0x133);
        }
    }

    private static void tellsKeyZeroAtFirst(Check check) {
        check.due("video(5)", new Board().video(5), 0);
        Turn.op(check, 0x36, "K0=1 M0x131=0x42", "R3=0x142");
        Turn.op(check, 0x36, "K1=1 K15=1 M0x131=0x42", "R3=0x132");
    }

    private static void otherLines(Check check) {
        String allDown = "";
        for (int k = 0; k < 16; k++) {
            allDown += " K" + k + "=1";
        }
        for (String keys : new String[] {"", allDown}) {
            for (int code : new int[] {0x35, 0x37}) {
                Turn.op(check, code, "M0x131=0x42 DF=1 Q=1" + keys, "R3=0x132");
                Turn.op(check, code + 8, "M0x131=0x42 DF=1 Q=1" + keys, "R3=0x142");
            }
        }
        for (int code : new int[] {0x35, 0x37}) {
            Board board = VideoEdges.on(60, 0, 0);
            VideoEdges.next(board, code, 0x42);
            board.run(1);
            check.due("RP in line 60", board.cpu(3), VideoEdges.CODE + 2);
        }
    }

    private static void downAndUp(Check check) {
        for (int k : new int[] {0, 1, 14, 15}) {
            Board board = CallEdges.idleAndFull();
            check.changes("key(" + k + ", true)", board, () -> board.key(k, true), "IDLE=1 K" + k + "=1");
            check.changes("key(" + k + ", true) again", board, () -> board.key(k, true), "");
            check.changes("key(" + k + ", false)", board, () -> board.key(k, false), "K" + k + "=0");
            check.changes("key(" + k + ", false) again", board, () -> board.key(k, false), "");
        }
    }

    private static void refusesOthers(Check check) {
        for (int k : new int[] {-1, 16, 17, 255, Integer.MAX_VALUE, Integer.MIN_VALUE}) {
            for (boolean down : new boolean[] {true, false}) {
                Board board = CallEdges.busy();
                check.refused("key(" + k + ", " + down + ")", board, Check.ILLEGAL_ARGUMENT, () -> board.key(k, down));
            }
        }
    }
}
