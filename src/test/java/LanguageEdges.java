/** THE LANGUAGE: its parts, and every step but for drawing. */
final class LanguageEdges {
    private static final String PART = "THE LANGUAGE";

    private LanguageEdges() {
    }

    static void all(Edges edges) {
        parts(edges);
        jumps(edges);
        edges.says(PART, "6xnn: Vx becomes nn.", LanguageEdges::putByte);
        edges.says(PART, "7xnn: Vx + nn.", LanguageEdges::addByte);
        edges.says(PART, "8xy0 to 8xy3: Vx becomes Vy, Vx or Vy, and, exclusive or.", LanguageEdges::logic);
        edges.says(PART, "8xy4: Vx + Vy,", LanguageEdges::sums);
        edges.says(PART, "8xy5 Vx - Vy, 8xy7 Vy - Vx;", LanguageEdges::differences);
        edges.says(PART, "V15 becomes the carry, or 1 if nothing was borrowed (last).", LanguageEdges::flagLast);
        edges.says(PART, "8xy6, 8xyE: Vx becomes Vy shifted right, left;", LanguageEdges::shifts);
        edges.says(PART, "V15 the bit that fell out (last).", LanguageEdges::fallenBitLast);
        edges.says(PART, "Annn: I becomes nnn.", LanguageEdges::putIndex);
        edges.says(PART, "Cxnn: RANDOM becomes 5 times itself plus 1, Vx that and nn.", LanguageEdges::random);
        edges.says(PART, "Ex9E, ExA1: PC grows by 2 if the key of the low four bits of Vx is down, is not down.",
                LanguageEdges::skipsByKey);
        edges.says(PART, "Fx07: Vx becomes DELAY.", LanguageEdges::readsDelay);
        edges.says(PART, "Fx15, Fx18: DELAY, TONE becomes Vx.", LanguageEdges::putsTimers);
        edges.says(PART, "Fx1E: I + Vx.", LanguageEdges::addsToIndex);
        edges.says(PART, "Fx29: I becomes 5 times the low four bits of Vx.", LanguageEdges::digitPlace);
        edges.says(PART, "Fx0A: Vx becomes the least key that is down;", LanguageEdges::leastKey);
        edges.says(PART, "without one the step is none: PC stays, and the steps end.", LanguageEdges::noKey);
        edges.says(PART, "Fx33: the bytes at I, I + 1, I + 2 become the decimal digits of Vx, the first one highest.",
                LanguageEdges::digits);
        edges.says(PART, "Fx55, Fx65: V0 .. Vx go to the bytes from I on,", LanguageEdges::saves);
        edges.says(PART, "come from there;", LanguageEdges::loads);
        edges.says(PART, "I grows by x + 1.", LanguageEdges::indexGrows);
        edges.says(PART, "All others are none.", LanguageEdges::others);
    }

    private static void parts(Edges edges) {
        edges.says(PART, "THE LANGUAGE has V0 .. V15 (bytes),", LanguageEdges::variables);
        edges.says(PART, "I (12 bits),", LanguageEdges::indexHasTwelveBits);
        edges.says(PART, "PC (12 bits, 512 at first),", LanguageEdges::pcHasTwelveBits);
        edges.says(PART, "a stack of at most 12,", LanguageEdges::stackOfTwelve);
        edges.says(PART, "timers DELAY and TONE, a RANDOM byte; all 0 but PC.", LanguageEdges::atFirst);
        edges.says(PART, "A STEP takes the pair at PC as four hexadecimal digits (x the second, y the third, "
                + "n the fourth, nn both last ones, nnn the last three);", LanguageEdges::digitsOfAStep);
        edges.says(PART, "nnn the last three); PC grows by 2.", LanguageEdges::pcGrows);
    }

    private static void jumps(Edges edges) {
        edges.says(PART, "00E0: the screen becomes 0.", LanguageEdges::clears);
        edges.says(PART, "00EE: PC is taken off the stack.", LanguageEdges::leaves);
        edges.says(PART, "1nnn: PC becomes nnn.", LanguageEdges::jumpsTo);
        edges.says(PART, "2nnn: PC is put onto the stack, and becomes nnn.", LanguageEdges::enters);
        edges.says(PART, "3xnn, 4xnn: PC grows by 2 if Vx is nn, is not nn;", LanguageEdges::skipsByByte);
        edges.says(PART, "5xy0, 9xy0: if Vx is Vy, is not Vy.", LanguageEdges::skipsByVariable);
        edges.says(PART, "Bnnn: PC becomes nnn + V0.", LanguageEdges::jumpsFromV0);
    }

    /** Makes the pair at an address beyond the program, where 1nnn leads to. */
    private static Board atPc(int pc, int pair) {
        Board board = new Board();
        board.pokePairs(512, 0x1000 + pc);
        board.poke(pc % 2048, pair >> 8);
        board.poke((pc + 1) % 2048, pair & 255);
        board.chip(1);
        return board;
    }

    private static void makes(Check check, String name, Board board, String want) {
        check.changes(name, board, () -> check.due(name + ": chip(1)", board.chip(1), 1), want);
    }

    private static void variables(Check check) {
        for (int x = 0; x < 16; x++) {
            Turn.step(check, "", "V" + x + "=255", 0x60FF + 256 * x);
            Turn.step(check, "", "V" + x + "=0", 0x60FF + 256 * x, 0x6000 + 256 * x);
        }
        Turn.step(check, "", "V1=0", 0x61FF, 0x7101);
        Turn.step(check, "", "V1=254 V15=1", 0x61FF, 0x8114);
        Turn.step(check, "", "V1=255 V15=0", 0x6201, 0x8125);
        Turn.step(check, "", "V1=254 V15=1", 0x62FF, 0x812E);
    }

    private static void indexHasTwelveBits(Check check) {
        Turn.step(check, "", "I=4095", 0xAFFF);
        Turn.step(check, "", "I=4095", 0x6101, 0xAFFE, 0xF11E);
        Turn.step(check, "", "I=0", 0x6101, 0xAFFF, 0xF11E);
        Turn.step(check, "", "I=254", 0x61FF, 0xAFFF, 0xF11E);
        Turn.step(check, "", "M2047=0x42 I=0", 0x6042, 0xAFFF, 0xF055);
        Turn.step(check, "M2047=0x42", "V0=0x42 I=0", 0xAFFF, 0xF065);
        Turn.step(check, "", "I=2048", 0x6101, 0xA7FF, 0xF11E);
    }

    private static void pcHasTwelveBits(Check check) {
        check.due("v(17) at first", new Board().v(17), 512);
        makes(check, "6142 at 0xFFC", atPc(0xFFC, 0x6142), "V1=0x42 PC=0xFFE");
        makes(check, "6142 at 0xFFD", atPc(0xFFD, 0x6142), "V1=0x42 PC=0xFFF");
        makes(check, "6142 at 0xFFE", atPc(0xFFE, 0x6142), "V1=0x42 PC=0");
        makes(check, "6142 at 0xFFF", atPc(0xFFF, 0x6142), "V1=0x42 PC=1");
        makes(check, "3100 at 0xFFA", atPc(0xFFA, 0x3100), "PC=0xFFE");
        makes(check, "3100 at 0xFFC", atPc(0xFFC, 0x3100), "PC=0");
        makes(check, "3100 at 0xFFE", atPc(0xFFE, 0x3100), "PC=2");
        makes(check, "E0A1 at 0xFFC", atPc(0xFFC, 0xE0A1), "PC=0");
        makes(check, "2300 at 0xFFE", atPc(0xFFE, 0x2300), "PC=0x300 DEPTH=1 TOP1=0");
        makes(check, "6142 at 0x7FE", atPc(0x7FE, 0x6142), "V1=0x42 PC=0x800");
        makes(check, "2300 at 0xA10", atPc(0xA10, 0x2300), "PC=0x300 DEPTH=1 TOP1=0xA12");
    }

    private static void stackOfTwelve(Check check) {
        Board board = Board.with("M512=0x22 M513=0x00");
        for (int depth = 1; depth <= 12; depth++) {
            makes(check, "2200", board, "PC=512 DEPTH=" + depth + " TOP" + depth + "=514");
        }
        check.refused("chip(1) with 12 on the stack", board, Check.ILLEGAL_STATE, () -> board.chip(1));
        board.pokePairs(512, 0x00EE);
        makes(check, "00EE with 12 on the stack", board, "PC=514 DEPTH=11 TOP12=-1");
        board.pokePairs(514, 0x2300);
        makes(check, "2300 with 11 on the stack", board, "PC=0x300 DEPTH=12 TOP12=516");
    }

    private static void atFirst(Check check) {
        Board board = new Board();
        for (int what = 0; what <= 21; what++) {
            check.due("v(" + what + ")", board.v(what), what == 17 ? 512 : 0);
        }
    }

    private static void digitsOfAStep(Check check) {
        Turn.step(check, "", "V10=0xBC", 0x6ABC);
        Turn.step(check, "", "V12=0x33", 0x6333, 0x8C30);
        Turn.step(check, "", "V3=0x44", 0x6C44, 0x83C0);
        Turn.step(check, "", "PC=0xABC", 0x1ABC);
        Turn.step(check, "", "I=0xABC", 0xAABC);
        Turn.step(check, "M0x300=1 M0x301=2 M0x302=4", "M1792=1 M1800=2", 0xA300, 0xDAB2);
    }

    private static void pcGrows(Check check) {
        Turn.step(check, "", "V1=1 PC=514", 0x6101);
        Turn.step(check, "", "V1=1 PC=516", 0x6200, 0x6101);
        Board board = Board.with("PC=0 M0=0x61 M1=9");
        makes(check, "6109 at 0", board, "V1=9 PC=2");
        Board odd = Board.with("PC=601 M601=0x61 M602=9");
        makes(check, "6109 at 601", odd, "V1=9 PC=603");
    }

    private static void clears(Check check) {
        String all = "";
        for (int address : new int[] {1792, 1793, 1799, 1800, 1919, 1920, 2039, 2040, 2046, 2047}) {
            all += " M" + address + "=255";
        }
        Turn.step(check, "M1791=9 M0=9" + all, all.replace("255", "0"), 0x6F01, 0x00E0);
        Board board = new Board();
        board.pokePairs(512, 0x00E0);
        for (int k = 0; k < 128; k++) {
            board.poke(1792 + 2 * k, 0x80);
            board.poke(1793 + 2 * k, 0x01);
        }
        board.chip(1);
        for (int k = 0; k < 250; k++) {
            check.due("peek(" + (1792 + k) + ")", board.peek(1792 + k), 0);
        }
    }

    private static void leaves(Check check) {
        Board board = new Board();
        board.pokePairs(512, 0x2300);
        board.pokePairs(0x300, 0x2400);
        board.pokePairs(0x400, 0x00EE);
        board.pokePairs(0x302, 0x00EE);
        board.chip(2);
        makes(check, "00EE with two on the stack", board, "PC=0x302 DEPTH=1 TOP2=-1");
        makes(check, "00EE with one on the stack", board, "PC=514 DEPTH=0 TOP1=-1");
        board.pokePairs(514, 0x00EE);
        check.refused("chip(1) at 00EE with none on the stack", board, Check.ILLEGAL_STATE, () -> board.chip(1));
    }

    private static void jumpsTo(Check check) {
        Turn.step(check, "", "PC=0", 0x1000);
        Turn.step(check, "", "PC=512", 0x1200);
        Turn.step(check, "", "PC=2047", 0x17FF);
        Turn.step(check, "", "PC=2048", 0x1800);
        Turn.step(check, "", "PC=4095", 0x1FFF);
    }

    private static void enters(Check check) {
        Turn.step(check, "", "PC=0 DEPTH=1 TOP1=514", 0x2000);
        Turn.step(check, "", "PC=4095 DEPTH=1 TOP1=514", 0x2FFF);
        makes(check, "2A00 at 0xFFD", atPc(0xFFD, 0x2A00), "PC=0xA00 DEPTH=1 TOP1=0xFFF");
        makes(check, "2A00 at 0xFFF", atPc(0xFFF, 0x2A00), "PC=0xA00 DEPTH=1 TOP1=1");
    }

    /** The last step skips, or it does not. */
    private static void skip(Check check, boolean goes, int... pairs) {
        Turn.step(check, "", goes ? "PC=" + (514 + 2 * pairs.length) : "", pairs);
    }

    private static void skipsByByte(Check check) {
        for (int x : new int[] {0, 15}) {
            for (int value : new int[] {0, 1, 127, 255}) {
                int put = 0x6000 + 256 * x + value;
                int other = (value + 1) % 256;
                skip(check, true, put, 0x3000 + 256 * x + value);
                skip(check, false, put, 0x3000 + 256 * x + other);
                skip(check, false, put, 0x4000 + 256 * x + value);
                skip(check, true, put, 0x4000 + 256 * x + other);
            }
        }
    }

    private static void skipsByVariable(Check check) {
        skip(check, true, 0x60FF, 0x6FFF, 0x50F0);
        skip(check, false, 0x60FF, 0x6F7F, 0x50F0);
        skip(check, false, 0x60FF, 0x6FFE, 0x5F00);
        skip(check, true, 0x6301, 0x5330);
        skip(check, false, 0x60FF, 0x6FFF, 0x90F0);
        skip(check, true, 0x60FF, 0x6F7F, 0x90F0);
        skip(check, true, 0x60FF, 0x6FFE, 0x9F00);
        skip(check, false, 0x6301, 0x9330);
    }

    private static void jumpsFromV0(Check check) {
        Turn.step(check, "", "PC=0", 0x6101, 0xB000);
        Turn.step(check, "", "PC=0x4FF", 0x60FF, 0xB400);
        Turn.step(check, "", "PC=0xFFF", 0x60FF, 0xBF00);
        Turn.step(check, "", "PC=0", 0x60FF, 0xBF01);
        Turn.step(check, "", "PC=0xFE", 0x60FF, 0xBFFF);
    }

    private static void putByte(Check check) {
        Turn.step(check, "", "V0=1", 0x6001);
        Turn.step(check, "", "V15=255", 0x6FFF);
        Turn.step(check, "", "V15=0", 0x6FFF, 0x6F00);
    }

    private static void addByte(Check check) {
        Turn.step(check, "", "V1=255", 0x61FE, 0x7101);
        Turn.step(check, "", "V1=0", 0x6F09, 0x61FF, 0x7101);
        Turn.step(check, "", "V1=254", 0x6F09, 0x61FF, 0x71FF);
        Turn.step(check, "", "V1=255", 0x61FF, 0x7100);
        Turn.step(check, "", "V15=1", 0x6FFF, 0x7F02);
    }

    private static void logic(Check check) {
        Turn.step(check, "", "V1=0x53", 0x6F09, 0x6135, 0x6253, 0x8120);
        Turn.step(check, "", "V1=0x77", 0x6F09, 0x6135, 0x6253, 0x8121);
        Turn.step(check, "", "V1=0x11", 0x6F09, 0x6135, 0x6253, 0x8122);
        Turn.step(check, "", "V1=0x66", 0x6F09, 0x6135, 0x6253, 0x8123);
        Turn.step(check, "", "V1=0", 0x61FF, 0x8113);
        Turn.step(check, "", "V15=0x0F", 0x6FFF, 0x610F, 0x8F12);
        Turn.step(check, "", "V15=0xFF", 0x6FF0, 0x610F, 0x8F11);
    }

    /** V1 and V15 behind 812n of these two, from a V15 of 9. */
    private static void flagged(Check check, int n, int v1, int v2, int want, int wantFlag) {
        Turn.step(check, "", "V1=" + want + " V15=" + wantFlag, 0x6F09, 0x6100 + v1, 0x6200 + v2, 0x8120 + n);
    }

    private static void sums(Check check) {
        flagged(check, 4, 0, 0, 0, 0);
        flagged(check, 4, 254, 1, 255, 0);
        flagged(check, 4, 255, 1, 0, 1);
        flagged(check, 4, 1, 255, 0, 1);
        flagged(check, 4, 255, 255, 254, 1);
        Turn.step(check, "", "V1=0 V15=1", 0x6180, 0x8114);
    }

    private static void differences(Check check) {
        flagged(check, 5, 9, 8, 1, 1);
        flagged(check, 5, 9, 9, 0, 1);
        flagged(check, 5, 9, 10, 255, 0);
        flagged(check, 5, 0, 255, 1, 0);
        flagged(check, 5, 255, 0, 255, 1);
        flagged(check, 7, 8, 9, 1, 1);
        flagged(check, 7, 9, 9, 0, 1);
        flagged(check, 7, 10, 9, 255, 0);
        flagged(check, 7, 255, 0, 1, 0);
        flagged(check, 7, 0, 255, 255, 1);
    }

    private static void flagLast(Check check) {
        Turn.step(check, "", "V15=1", 0x6FFF, 0x6102, 0x8F14);
        Turn.step(check, "", "V15=0", 0x6FF0, 0x6102, 0x8F14);
        Turn.step(check, "", "V15=1", 0x6FF0, 0x6102, 0x8F15);
        Turn.step(check, "", "V15=0", 0x6F01, 0x6102, 0x8F15);
        Turn.step(check, "", "V15=0", 0x6FF0, 0x6102, 0x8F17);
        Turn.step(check, "", "V15=1", 0x6F01, 0x61F0, 0x8F17);
        Turn.step(check, "", "V1=1 V15=1", 0x6FFF, 0x6102, 0x81F4);
        Turn.step(check, "", "V1=14 V15=1", 0x6F01, 0x610F, 0x81F5);
        Turn.step(check, "", "V1=254 V15=0", 0x6F01, 0x6103, 0x81F7);
        Turn.step(check, "", "V15=1", 0x6FFF, 0x8FF5);
    }

    private static void shifts(Check check) {
        flagged(check, 6, 255, 0, 0, 0);
        flagged(check, 6, 255, 1, 0, 1);
        flagged(check, 6, 0, 0x80, 0x40, 0);
        flagged(check, 6, 0, 0xFF, 0x7F, 1);
        flagged(check, 14, 255, 0, 0, 0);
        flagged(check, 14, 255, 1, 2, 0);
        flagged(check, 14, 255, 0x80, 0, 1);
        flagged(check, 14, 0, 0x7F, 0xFE, 0);
        flagged(check, 14, 0, 0xFF, 0xFE, 1);
        Turn.step(check, "", "V1=0x40 V15=1", 0x6181, 0x8116);
        Turn.step(check, "", "V1=0x02 V15=1", 0x6181, 0x811E);
    }

    private static void fallenBitLast(Check check) {
        Turn.step(check, "", "V15=1", 0x61FF, 0x8F16);
        Turn.step(check, "", "V15=0", 0x6FFF, 0x61FE, 0x8F16);
        Turn.step(check, "", "V15=1", 0x61FF, 0x8F1E);
        Turn.step(check, "", "V15=0", 0x6FFF, 0x617F, 0x8F1E);
        Turn.step(check, "", "V15=1", 0x6FFF, 0x8FF6);
        Turn.step(check, "", "V1=0x40 V15=1", 0x6F81, 0x81F6);
        Turn.step(check, "", "V1=0x02 V15=1", 0x6F81, 0x81FE);
    }

    private static void putIndex(Check check) {
        Turn.step(check, "", "I=0", 0xAFFF, 0xA000);
        Turn.step(check, "", "I=2048", 0xA800);
        Turn.step(check, "", "I=4095", 0xAFFF);
    }

    private static void random(Check check) {
        Turn.step(check, "", "RANDOM=1 V1=1", 0xC1FF);
        Turn.step(check, "", "RANDOM=1 V1=0", 0x61FF, 0xC100);
        Turn.step(check, "", "RANDOM=1 V15=1", 0xCF0F);
        Turn.step(check, "", "RANDOM=156 V1=156", 0xC1FF, 0xC1FF, 0xC1FF, 0xC1FF);
        Turn.step(check, "", "RANDOM=13 V1=13", 0xC1FF, 0xC1FF, 0xC1FF, 0xC1FF, 0xC1FF);
        Turn.step(check, "", "RANDOM=6 V1=6", 0xC100, 0xC1FF);
        Board board = new Board();
        board.pokePairs(512, 0xC17F, 0x1200);
        int random = 0;
        for (int k = 0; k < 100; k++) {
            board.chip(1);
            random = (5 * random + 1) % 256;
            check.due("RANDOM", board.v(21), random);
            check.due("V1", board.v(1), random % 128);
            board.chip(1);
        }
    }

    private static void skipsByKey(Check check) {
        for (int k : new int[] {0, 1, 14, 15}) {
            for (int high : new int[] {0, 0x10, 0xF0}) {
                int put = 0x6300 + high + k;
                String others = "K" + (k + 1) % 16 + "=1 K" + (k + 15) % 16 + "=1";
                Turn.step(check, "K" + k + "=1", "PC=518", put, 0xE39E);
                Turn.step(check, "K" + k + "=1", "", put, 0xE3A1);
                Turn.step(check, others, "", put, 0xE39E);
                Turn.step(check, others, "PC=518", put, 0xE3A1);
            }
        }
    }

    private static void readsDelay(Check check) {
        Turn.step(check, "", "V3=0", 0x6309, 0xF307);
        Turn.step(check, "", "V3=255", 0x61FF, 0xF115, 0xF307);
        Turn.step(check, "", "V15=1", 0x6101, 0xF115, 0xFF07);
        Turn.step(check, "", "V3=0", 0x6309, 0xF318, 0xF307);
    }

    private static void putsTimers(Check check) {
        Turn.step(check, "", "DELAY=255", 0x61FF, 0xF115);
        Turn.step(check, "", "DELAY=0", 0x61FF, 0xF115, 0xF215);
        Turn.step(check, "", "TONE=255", 0x61FF, 0xF118);
        Turn.step(check, "", "TONE=0", 0x61FF, 0xF118, 0xF218);
        Turn.step(check, "", "DELAY=7", 0x6F07, 0xFF15);
    }

    private static void addsToIndex(Check check) {
        Turn.step(check, "", "I=255", 0x61FF, 0xF11E);
        Turn.step(check, "", "I=4095", 0x6F09, 0x61FF, 0xAF00, 0xF11E);
        Turn.step(check, "", "I=0", 0x6F09, 0x61FF, 0xAF01, 0xF11E);
        Turn.step(check, "", "I=4095", 0x6F09, 0xAFFF, 0xF11E);
    }

    private static void digitPlace(Check check) {
        Turn.step(check, "", "I=0", 0xA300, 0xF129);
        Turn.step(check, "", "I=75", 0x610F, 0xF129);
        Turn.step(check, "", "I=0", 0x6110, 0xA300, 0xF129);
        Turn.step(check, "", "I=75", 0x61FF, 0xF129);
    }

    private static void leastKey(Check check) {
        Turn.step(check, "K0=1 K15=1", "V1=0", 0x6109, 0xF10A);
        Turn.step(check, "K15=1", "V1=15", 0xF10A);
        Turn.step(check, "K15=1 K14=1", "V1=14", 0xF10A);
        Turn.step(check, "K1=1 K2=1 K15=1", "V15=1", 0xFF0A);
    }

    private static void noKey(Check check) {
        Board board = new Board();
        board.pokePairs(512, 0x6107, 0x6209, 0xF10A, 0x63AA);
        check.changes("two steps before", board, () -> check.due("chip(200)", board.chip(200), 2), "V1=7 V2=9 PC=516");
        for (int n : new int[] {1, 2, 200}) {
            check.changes("no key", board, () -> check.due("chip(" + n + ")", board.chip(n), 0), "");
        }
        board.key(3, true);
        board.key(3, false);
        check.changes("a key that is up again", board, () -> check.due("chip(1)", board.chip(1), 0), "");
        board.key(3, true);
        check.changes("a key", board, () -> check.due("chip(2)", board.chip(2), 2), "V1=3 V3=0xAA PC=520");
    }

    private static void digits(Check check) {
        int[][] rows = {{0, 0, 0, 0}, {9, 0, 0, 9}, {10, 0, 1, 0}, {99, 0, 9, 9}, {100, 1, 0, 0}, {199, 1, 9, 9},
            {200, 2, 0, 0}, {255, 2, 5, 5}};
        for (int[] row : rows) {
            Turn.step(check, "M0x300=77 M0x301=77 M0x302=77", "M0x300=" + row[1] + " M0x301=" + row[2] + " M0x302=" + row[3],
                    0x6100 + row[0], 0xA300, 0xF133);
        }
        Turn.step(check, "", "M2046=1 M2047=2 M0=3", 0x617B, 0xA7FE, 0xF133);
        Turn.step(check, "", "M2047=1 M0=2 M1=3", 0x617B, 0xAFFF, 0xF133);
    }

    private static void saves(Check check) {
        Turn.step(check, "", "M0x300=0x11 I=0x301", 0x6011, 0x6122, 0xA300, 0xF055);
        Turn.step(check, "", "M0x300=0x11 M0x301=0x22 I=0x302", 0x6011, 0x6122, 0x6233, 0xA300, 0xF155);
        Turn.step(check, "", "M2047=0x11 M0=0x22 M1=0x33 I=0x802", 0x6011, 0x6122, 0x6233, 0xA7FF, 0xF255);
        Turn.step(check, "", "M0x30F=0x99 I=0x310", 0x6F99, 0xA300, 0xFF55);
        Turn.step(check, "", "M0x30E=0x99 I=0x30F", 0x6E99, 0x6F88, 0xA300, 0xFE55);
    }

    private static void loads(Check check) {
        Turn.step(check, "M0x300=0x11 M0x301=0x22", "V0=0x11 I=0x301", 0x6F09, 0xA300, 0xF065);
        Turn.step(check, "M0x300=0x11 M0x301=0x22 M0x302=0x33", "V0=0x11 V1=0x22 I=0x302", 0xA300, 0xF165);
        Turn.step(check, "M2047=0x11 M0=0x22 M1=0x33", "V0=0x11 V1=0x22 V2=0x33 I=2", 0xAFFF, 0xF265);
        Turn.step(check, "M0x300=1 M0x30F=0x99 M0x310=0x88", "V0=1 V15=0x99 I=0x310", 0xA300, 0xFF65);
        Turn.step(check, "M0x30E=0x77 M0x30F=0x99", "V14=0x77 I=0x30F", 0x6F09, 0xA300, 0xFE65);
    }

    private static void indexGrows(Check check) {
        for (int code : new int[] {0xF055, 0xF065}) {
            for (int x : new int[] {0, 1, 15}) {
                Turn.step(check, "", "I=" + (0x300 + x + 1), 0xA300, code + 256 * x);
                Turn.step(check, "", "I=4095", 0xAFFF - x - 1, code + 256 * x);
                Turn.step(check, "", "I=0", 0xAFFF - x, code + 256 * x);
            }
        }
    }

    /** The document's instructions, as patterns of their four digits. */
    private static final String INSTRUCTIONS = "00e0|00ee|[123467abcd]...|[59]..0|8..[01234567e]|e.(9e|a1)"
            + "|f.(07|0a|15|18|1e|29|33|55|65)";

    private static void others(Check check) {
        for (int pair = 0; pair < 65536; pair++) {
            VipBoard board = new VipBoard();
            board.poke(512, pair >> 8);
            board.poke(513, pair & 255);
            boolean isOne = String.format("%04x", pair).matches(INSTRUCTIONS);
            // With an empty stack and no key down these two are instructions that are not made.
            String want = !isOne ? "none" : pair == 0x00EE ? "stack" : (pair & 0xF0FF) == 0xF00A ? "0" : "1";
            check.due(Integer.toHexString(pair) + " is " + want, outcome(board).equals(want) ? 1 : 0, 1);
        }
        for (int pair : new int[] {0x0000, 0x00E1, 0x5121, 0x8128, 0x912F, 0xE19F, 0xF1FF}) {
            Board board = new Board();
            board.pokePairs(512, 0x61AA, 0x6F33, 0xA345, 0xC2FF, pair);
            board.chip(4);
            check.refused("chip(1) at " + Integer.toHexString(pair), board, Check.UNSUPPORTED, () -> board.chip(1));
        }
    }

    private static String outcome(VipBoard board) {
        try {
            return "" + board.chip(1);
        } catch (UnsupportedOperationException e) {
            return "none";
        } catch (IllegalStateException e) {
            return "stack";
        }
    }
}
