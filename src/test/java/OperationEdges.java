/** THE PROCESSOR: the instructions with I 7, 12 and 15. */
final class OperationEdges {
    private static final String PART = "THE PROCESSOR";

    private OperationEdges() {
    }

    static void all(Edges edges) {
        edges.says(PART, "7: 0, 1: X and P become the high and the low four bits of M(X), "
                + "RX grows by 1 (the X before), IE becomes 1, 0.", OperationEdges::resume);
        edges.says(PART, "2: D becomes M(X), RX grows by 1.", OperationEdges::loadX);
        edges.says(PART, "3: M(X) becomes D, RX falls by 1.", OperationEdges::storeX);
        edges.says(PART, "4: D becomes M(X) + D + DF.", check -> sumWithCarry(check, 0x74));
        edges.says(PART, "5: M(X) - D - (1 - DF).", check -> differenceWithBorrow(check, 0x75));
        edges.says(PART, "6: D is shifted right, DF from above, DF becomes the bit that fell out.",
                OperationEdges::ringRight);
        edges.says(PART, "7: D - M(X) - (1 - DF).", check -> opposedWithBorrow(check, 0x77));
        edges.says(PART, "8: M(X) becomes T.", OperationEdges::saveT);
        edges.says(PART, "9: T becomes 16 * X + P, M(2) T, X P, R2 falls by 1.", OperationEdges::mark);
        edges.says(PART, "10, 11: Q becomes 0, 1.", OperationEdges::putQ);
        edges.says(PART, "12, 13, 15: as 4, 5, 7 with the next byte in place of M(X); RP grows by 1.", check -> {
            sumWithCarry(check, 0x7C);
            differenceWithBorrow(check, 0x7D);
            opposedWithBorrow(check, 0x7F);
        });
        edges.says(PART, "14: as 6, to the left, from below.", OperationEdges::ringLeft);
        edges.says(PART, "12: LONG: N 0 to 3: as a branch with the conditions 0 to 3, "
                + "but RP becomes the next pair, or grows by 2;", OperationEdges::longBranches);
        edges.says(PART, "9 to 11: with 9 to 11.", OperationEdges::longOpposites);
        edges.says(PART, "4: nothing.", OperationEdges::longNothing);
        edges.says(PART, "Others skip: RP grows by 2 if the condition holds: 5 Q is 0, 6 D is not 0, 7 DF is 0, "
                + "8 always, 12 IE is 1, 13 Q is 1, 14 D is 0, 15 DF is 1.", OperationEdges::skips);
        edges.says(PART, "15: 0: D becomes M(X).", check -> plainLoad(check, 0xF0));
        edges.says(PART, "1, 2, 3: D or, and, exclusive or M(X).", check -> logic(check, 0xF1, 0xF2, 0xF3));
        edges.says(PART, "4: M(X) + D.", check -> sum(check, 0xF4));
        edges.says(PART, "5: M(X) - D.", check -> difference(check, 0xF5));
        edges.says(PART, "6: D is shifted right, 0 from above.", OperationEdges::shiftRight);
        edges.says(PART, "7: D - M(X).", check -> opposed(check, 0xF7));
        edges.says(PART, "8 to 13, 15: as 0 to 5, 7 with the next byte; RP grows by 1.", check -> {
            plainLoad(check, 0xF8);
            logic(check, 0xF9, 0xFA, 0xFB);
            sum(check, 0xFC);
            difference(check, 0xFD);
            opposed(check, 0xFF);
        });
        edges.says(PART, "14: as 6, to the left.", OperationEdges::shiftLeft);
        edges.says(PART, "A sum makes DF its carry,", OperationEdges::everySum);
        edges.says(PART, "a difference makes it 1 if nothing was borrowed,", OperationEdges::everyDifference);
        edges.says(PART, "a shift the bit that fell out.", OperationEdges::everyShift);
    }

    /** D and DF behind an instruction whose other byte is M(X), or the next one if N is 8 or more. */
    private static void of(Check check, int code, int other, int d, int df, int wantD, int wantDf) {
        boolean isNext = (code & 15) >= 8;
        String before = (isNext ? "M0x131=" : "M0x240=") + other + (isNext ? " M0x240=" : " M0x131=") + 0x5A;
        Turn.op(check, code, before + " D=" + d + " DF=" + df,
                "D=" + wantD + " DF=" + wantDf + (isNext ? " R3=0x132" : ""));
    }

    private static void resume(Check check) {
        for (int ie : new int[] {0, 1}) {
            Turn.op(check, 0x70, "M0x240=0xF0 IE=" + ie, "R5=0x241 X=15 P=0 IE=1");
            Turn.op(check, 0x70, "M0x240=0x0F IE=" + ie, "R5=0x241 X=0 P=15 IE=1");
            Turn.op(check, 0x71, "M0x240=0xFF IE=" + ie, "R5=0x241 X=15 P=15 IE=0");
            Turn.op(check, 0x71, "M0x240=0x00 IE=" + ie, "R5=0x241 X=0 P=0 IE=0");
        }
        Turn.op(check, 0x70, "X=3 M0x131=0x12", "R3=0x132 X=1 P=2 IE=1");
    }

    private static void loadX(Check check) {
        Turn.op(check, 0x72, "M0x240=255 DF=1", "D=255 R5=0x241");
        Turn.op(check, 0x72, "M0x240=0 D=9", "D=0 R5=0x241");
        Turn.op(check, 0x72, "X=3 M0x131=0x42", "D=0x42 R3=0x132");
    }

    private static void storeX(Check check) {
        Turn.op(check, 0x73, "D=255", "M0x240=255 R5=0x23F");
        Turn.op(check, 0x73, "R5=0 D=9", "M0=9 R5=65535");
    }

    private static void sum(Check check, int code) {
        for (int df : new int[] {0, 1}) {
            of(check, code, 0, 0, df, 0, 0);
            of(check, code, 254, 1, df, 255, 0);
            of(check, code, 255, 1, df, 0, 1);
            of(check, code, 255, 255, df, 254, 1);
        }
    }

    private static void sumWithCarry(Check check, int code) {
        of(check, code, 0, 0, 1, 1, 0);
        of(check, code, 254, 1, 0, 255, 0);
        of(check, code, 254, 1, 1, 0, 1);
        of(check, code, 255, 0, 0, 255, 0);
        of(check, code, 255, 255, 0, 254, 1);
        of(check, code, 255, 255, 1, 255, 1);
    }

    private static void difference(Check check, int code) {
        for (int df : new int[] {0, 1}) {
            of(check, code, 9, 8, df, 1, 1);
            of(check, code, 9, 9, df, 0, 1);
            of(check, code, 9, 10, df, 255, 0);
            of(check, code, 255, 0, df, 255, 1);
            of(check, code, 0, 255, df, 1, 0);
        }
    }

    private static void differenceWithBorrow(Check check, int code) {
        of(check, code, 9, 8, 0, 0, 1);
        of(check, code, 9, 8, 1, 1, 1);
        of(check, code, 9, 9, 0, 255, 0);
        of(check, code, 9, 9, 1, 0, 1);
        of(check, code, 0, 255, 0, 0, 0);
        of(check, code, 0, 255, 1, 1, 0);
    }

    private static void opposed(Check check, int code) {
        for (int df : new int[] {0, 1}) {
            of(check, code, 8, 9, df, 1, 1);
            of(check, code, 9, 9, df, 0, 1);
            of(check, code, 10, 9, df, 255, 0);
            of(check, code, 0, 255, df, 255, 1);
            of(check, code, 255, 0, df, 1, 0);
        }
    }

    private static void opposedWithBorrow(Check check, int code) {
        of(check, code, 8, 9, 0, 0, 1);
        of(check, code, 8, 9, 1, 1, 1);
        of(check, code, 9, 9, 0, 255, 0);
        of(check, code, 9, 9, 1, 0, 1);
        of(check, code, 255, 0, 0, 0, 0);
        of(check, code, 255, 0, 1, 1, 0);
    }

    private static void plainLoad(Check check, int code) {
        of(check, code, 0, 255, 1, 0, 1);
        of(check, code, 255, 0, 0, 255, 0);
    }

    private static void logic(Check check, int or, int and, int exclusive) {
        for (int df : new int[] {0, 1}) {
            of(check, or, 0x35, 0x53, df, 0x77, df);
            of(check, or, 0, 0, df, 0, df);
            of(check, or, 255, 255, df, 255, df);
            of(check, and, 0x35, 0x53, df, 0x11, df);
            of(check, and, 255, 255, df, 255, df);
            of(check, and, 255, 0, df, 0, df);
            of(check, exclusive, 0x35, 0x53, df, 0x66, df);
            of(check, exclusive, 255, 255, df, 0, df);
            of(check, exclusive, 255, 0, df, 255, df);
        }
    }

    private static void shift(Check check, int code, int d, int df, int wantD, int wantDf) {
        Turn.op(check, code, "M0x240=0x5A M0x131=0xA5 D=" + d + " DF=" + df, "D=" + wantD + " DF=" + wantDf);
    }

    private static void ringRight(Check check) {
        shift(check, 0x76, 0x00, 0, 0x00, 0);
        shift(check, 0x76, 0x00, 1, 0x80, 0);
        shift(check, 0x76, 0x01, 0, 0x00, 1);
        shift(check, 0x76, 0x01, 1, 0x80, 1);
        shift(check, 0x76, 0x80, 0, 0x40, 0);
        shift(check, 0x76, 0xFE, 1, 0xFF, 0);
    }

    private static void ringLeft(Check check) {
        shift(check, 0x7E, 0x00, 0, 0x00, 0);
        shift(check, 0x7E, 0x00, 1, 0x01, 0);
        shift(check, 0x7E, 0x80, 0, 0x00, 1);
        shift(check, 0x7E, 0x80, 1, 0x01, 1);
        shift(check, 0x7E, 0x01, 0, 0x02, 0);
        shift(check, 0x7E, 0x7F, 1, 0xFF, 0);
    }

    private static void shiftRight(Check check) {
        for (int df : new int[] {0, 1}) {
            shift(check, 0xF6, 0x00, df, 0x00, 0);
            shift(check, 0xF6, 0x01, df, 0x00, 1);
            shift(check, 0xF6, 0x80, df, 0x40, 0);
            shift(check, 0xF6, 0xFF, df, 0x7F, 1);
        }
    }

    private static void shiftLeft(Check check) {
        for (int df : new int[] {0, 1}) {
            shift(check, 0xFE, 0x00, df, 0x00, 0);
            shift(check, 0xFE, 0x80, df, 0x00, 1);
            shift(check, 0xFE, 0x01, df, 0x02, 0);
            shift(check, 0xFE, 0xFF, df, 0xFE, 1);
        }
    }

    private static void saveT(Check check) {
        Turn.op(check, 0x78, "T=255 D=1", "M0x240=255");
        Turn.op(check, 0x78, "T=0 M0x240=9", "M0x240=0");
    }

    private static void mark(Check check) {
        Turn.op(check, 0x79, "R2=0x300", "T=0x53 M0x300=0x53 X=3 R2=0x2FF");
        Turn.op(check, 0x79, "X=15 R2=1", "T=0xF3 M1=0xF3 X=3 R2=0");
        Turn.op(check, 0x79, "X=2 R2=0", "T=0x23 M0=0x23 X=3 R2=65535");
        Turn.act(check, 2, "P=15 R15=0x130 X=15 M0x130=0x79 R2=0x300", "R15=0x131 T=0xFF M0x300=0xFF R2=0x2FF");
        Turn.act(check, 2, "P=0 R0=0x130 X=0 M0x130=0x79 R2=0x300 M0x300=9 T=9", "R0=0x131 T=0 M0x300=0 R2=0x2FF");
        Turn.act(check, 2, "P=2 R2=0x130 X=5 M0x130=0x79", "R2=0x130 T=0x52 M0x131=0x52 X=2");
    }

    private static void putQ(Check check) {
        for (int q : new int[] {0, 1}) {
            Turn.op(check, 0x7A, "D=9 Q=" + q, "Q=0");
            Turn.op(check, 0x7B, "D=9 Q=" + q, "Q=1");
        }
    }

    /** Whether this long branch is taken to the pair 0x6499, with these parts. */
    private static void far(Check check, int code, String before, boolean taken) {
        Turn.op(check, code, "M0x131=0x64 M0x132=0x99 " + before, taken ? "R3=0x6499" : "R3=0x133");
    }

    private static void longBranches(Check check) {
        far(check, 0xC0, "", true);
        far(check, 0xC0, "D=1 Q=1 DF=1", true);
        far(check, 0xC1, "Q=0 D=0 DF=1", false);
        far(check, 0xC1, "Q=1 D=1", true);
        far(check, 0xC2, "D=0 Q=1 DF=1", true);
        far(check, 0xC2, "D=1", false);
        far(check, 0xC2, "D=255 Q=1 DF=1", false);
        far(check, 0xC3, "DF=0 Q=1", false);
        far(check, 0xC3, "DF=1 D=1", true);
        Turn.op(check, 0xC0, "M0x131=0 M0x132=0", "R3=0");
        Turn.op(check, 0xC0, "M0x131=255 M0x132=255", "R3=65535");
    }

    private static void longOpposites(Check check) {
        far(check, 0xC9, "Q=0 D=0 DF=1", true);
        far(check, 0xC9, "Q=1", false);
        far(check, 0xCA, "D=0", false);
        far(check, 0xCA, "D=1", true);
        far(check, 0xCA, "D=128", true);
        far(check, 0xCB, "DF=0 Q=1 D=1", true);
        far(check, 0xCB, "DF=1", false);
    }

    private static void longNothing(Check check) {
        Turn.op(check, 0xC4, "M0x131=0x64 M0x132=0x99", "");
        Turn.op(check, 0xC4, "M0x131=0x64 M0x132=0x99 D=1 DF=1 Q=1 IE=0", "");
    }

    private static void skip(Check check, int code, String before, boolean taken) {
        Turn.op(check, code, "M0x131=0x64 M0x132=0x99 " + before, taken ? "R3=0x133" : "R3=0x131");
    }

    private static void skips(Check check) {
        skip(check, 0xC5, "Q=0 D=1 DF=1", true);
        skip(check, 0xC5, "Q=1", false);
        skip(check, 0xC6, "D=0 Q=1 DF=1", false);
        skip(check, 0xC6, "D=1", true);
        skip(check, 0xC6, "D=255", true);
        skip(check, 0xC7, "DF=0 D=1 Q=1", true);
        skip(check, 0xC7, "DF=1", false);
        skip(check, 0xC8, "", true);
        skip(check, 0xC8, "D=1 Q=1 DF=1 IE=0", true);
        skip(check, 0xCC, "IE=1", true);
        skip(check, 0xCC, "IE=0 D=1 Q=1 DF=1", false);
        skip(check, 0xCD, "Q=0 D=1 DF=1", false);
        skip(check, 0xCD, "Q=1", true);
        skip(check, 0xCE, "D=0 Q=1 DF=1", true);
        skip(check, 0xCE, "D=1", false);
        skip(check, 0xCF, "DF=0 Q=1 D=1", false);
        skip(check, 0xCF, "DF=1 D=1", true);
    }

    /** D * 2 + DF behind one instruction alone, without a look at the rest of the board. */
    private static int behind(int code, int other, int d, int df) {
        Board board = new Board();
        board.pokeAll(0, code, (code & 15) >= 8 ? other : 0);
        board.set(19, 5);
        board.set(5, 0x240);
        board.poke(0x240, other);
        board.set(16, d);
        board.set(17, df);
        board.run(1);
        return 2 * board.cpu(16) + board.cpu(17);
    }

    private static void everySum(Check check) {
        for (int d = 0; d < 256; d += 3) {
            for (int other = 0; other < 256; other++) {
                for (int df = 0; df < 2; df++) {
                    int plain = d + other;
                    int more = plain + df;
                    String name = "of " + d + ", " + other + ", " + df;
                    check.due("F4 " + name, behind(0xF4, other, d, df), plain % 256 * 2 + plain / 256);
                    check.due("7C " + name, behind(0x7C, other, d, df), more % 256 * 2 + more / 256);
                }
            }
        }
    }

    private static void everyDifference(Check check) {
        for (int d = 0; d < 256; d += 3) {
            for (int other = 0; other < 256; other++) {
                for (int df = 0; df < 2; df++) {
                    String name = "of " + d + ", " + other + ", " + df;
                    check.due("F5 " + name, behind(0xF5, other, d, df), difference(other, d, 0));
                    check.due("75 " + name, behind(0x75, other, d, df), difference(other, d, 1 - df));
                    check.due("FF " + name, behind(0xFF, other, d, df), difference(d, other, 0));
                    check.due("7F " + name, behind(0x7F, other, d, df), difference(d, other, 1 - df));
                }
            }
        }
    }

    private static int difference(int from, int what, int borrow) {
        int left = from - what - borrow;
        return left < 0 ? 2 * (left + 256) : 2 * left + 1;
    }

    private static void everyShift(Check check) {
        for (int d = 0; d < 256; d++) {
            for (int df = 0; df < 2; df++) {
                String name = "of " + d + ", " + df;
                check.due("F6 " + name, behind(0xF6, 0, d, df), d / 2 * 2 + d % 2);
                check.due("FE " + name, behind(0xFE, 0, d, df), d * 2 % 256 * 2 + d / 128);
                check.due("76 " + name, behind(0x76, 0, d, df), (d / 2 + 128 * df) * 2 + d % 2);
                check.due("7E " + name, behind(0x7E, 0, d, df), (d * 2 % 256 + df) * 2 + d / 128);
            }
        }
    }
}
