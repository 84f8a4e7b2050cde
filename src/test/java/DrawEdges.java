/** THE LANGUAGE: its screen, and what is drawn on it. */
final class DrawEdges {
    private static final String PART = "THE LANGUAGE";
    private static final int SCREEN = 1792;

    private DrawEdges() {
    }

    static void all(Edges edges) {
        edges.says(PART, "Its screen is memory from 1792 on: 32 rows of 8 bytes, highest bits on the left.",
                DrawEdges::corners);
        edges.says(PART, "Dxyn: n bytes from I on,", DrawEdges::heights);
        edges.says(PART, "Dxyn: n bytes from I on,", DrawEdges::bytesFromIndex);
        edges.says(PART, "one after the other,", DrawEdges::oneAfterTheOther);
        edges.says(PART, "are drawn from row Vy modulo 32", DrawEdges::rows);
        edges.says(PART, "and column Vx modulo 64 on,", DrawEdges::columns);
        edges.says(PART, "by exclusive or,", DrawEdges::exclusiveOr);
        edges.says(PART, "the highest bit leftmost;", DrawEdges::bits);
        edges.says(PART, "what is beyond the right or lower edge is not;", DrawEdges::rightEdge);
        edges.says(PART, "what is beyond the right or lower edge is not;", DrawEdges::lowerEdge);
        edges.says(PART, "V15 becomes 1 if a bit of the screen went from 1 to 0, otherwise 0.", DrawEdges::flag);
        edges.says(PART, "V15 becomes 1 if a bit of the screen went from 1 to 0, otherwise 0.",
                DrawEdges::flagAsCoordinate);
    }

    /** D12n of what lies at 0x300 on, at this column and row, from a V15 of 9. */
    private static void draw(Check check, int column, int row, int n, String before, String want) {
        Turn.step(check, before, "V15=0 " + want, 0x6F09, 0x6100 + column, 0x6200 + row, 0xA300, 0xD120 + n);
    }

    private static String spot(int row, int k, int value) {
        return " M" + (SCREEN + 8 * row + k) + "=" + value;
    }

    private static void corners(Check check) {
        draw(check, 0, 0, 1, "M0x300=0x80", "M1792=0x80");
        draw(check, 7, 0, 1, "M0x300=0x80", "M1792=0x01");
        draw(check, 8, 0, 1, "M0x300=0x80", "M1793=0x80");
        draw(check, 63, 0, 1, "M0x300=0x80", "M1799=0x01");
        draw(check, 0, 1, 1, "M0x300=0x80", "M1800=0x80");
        draw(check, 0, 31, 1, "M0x300=0x80", "M2040=0x80");
        draw(check, 63, 31, 1, "M0x300=0x80", "M2047=0x01");
    }

    private static void heights(Check check) {
        String bytes = "M0x2FF=99";
        String drawn = "";
        for (int k = 0; k < 16; k++) {
            bytes += " M" + (0x300 + k) + "=" + (0x81 + k);
        }
        for (int n = 0; n < 16; n++) {
            draw(check, 0, 0, n, bytes, drawn);
            drawn += spot(n, 0, 0x81 + n);
        }
    }

    private static void bytesFromIndex(Check check) {
        Turn.step(check, "M2046=1 M2047=2 M0=4 M1=8", "M1792=2 M1800=4", 0xA7FF, 0xD002);
        Turn.step(check, "M2046=1 M2047=2 M0=4 M1=8", "M1792=2 M1800=4", 0xAFFF, 0xD002);
        Turn.step(check, "M0=4 M1=8", "M1792=4 M1800=8", 0xA000, 0xD002);
    }

    /** I in the screen: the second byte is read when the first has been drawn over it. */
    private static void oneAfterTheOther(Check check) {
        Turn.step(check, "M1792=0x0F M1793=0x33 M1801=0x01", "M1793=0x3C M1801=0x3D V15=1", 0xA700, 0x6308, 0xD302);
    }

    private static void rows(Check check) {
        int[][] places = {{0, 0}, {30, 30}, {31, 31}, {32, 0}, {33, 1}, {63, 31}, {64, 0}, {224, 0}, {255, 31}};
        for (int[] place : places) {
            draw(check, 8, place[0], 1, "M0x300=0xC3", spot(place[1], 1, 0xC3));
        }
        draw(check, 0, 62, 3, "M0x300=1 M0x301=2 M0x302=3", spot(30, 0, 1) + spot(31, 0, 2));
    }

    private static void columns(Check check) {
        int[][] places = {{0, 0}, {56, 7}, {64, 0}, {72, 1}, {120, 7}, {128, 0}, {192, 0}, {248, 7}};
        for (int[] place : places) {
            draw(check, place[0], 2, 1, "M0x300=0xC3", spot(2, place[1], 0xC3));
        }
        draw(check, 63, 2, 1, "M0x300=0xC3", spot(2, 7, 1));
        draw(check, 255, 2, 1, "M0x300=0xC3", spot(2, 7, 1));
        draw(check, 65, 2, 1, "M0x300=0xC3", spot(2, 0, 0x61) + spot(2, 1, 0x80));
    }

    private static void exclusiveOr(Check check) {
        draw(check, 0, 0, 1, "M0x300=0x0F M1792=0xF0", "M1792=0xFF");
        draw(check, 0, 0, 1, "M0x300=0xFF M1792=0xF0", "M1792=0x0F V15=1");
        draw(check, 0, 0, 1, "M0x300=0xFF M1792=0xFF", "M1792=0 V15=1");
        draw(check, 0, 0, 1, "M0x300=0 M1792=0xFF", "");
    }

    private static void bits(Check check) {
        for (int shift = 0; shift < 8; shift++) {
            for (int value : new int[] {0x80, 0x01, 0xB1, 0xFF}) {
                for (int k : new int[] {0, 6}) {
                    draw(check, 8 * k + shift, 3, 1, "M0x300=" + value,
                            spot(3, k, value >> shift) + spot(3, k + 1, value << (8 - shift) & 255));
                }
            }
        }
    }

    private static void rightEdge(Check check) {
        String around = spot(4, 0, 0x55) + spot(5, 0, 0x55) + spot(5, 7, 0);
        for (int beyond = 0; beyond < 8; beyond++) {
            draw(check, 56 + beyond, 4, 1, "M0x300=0xFF" + around, spot(4, 7, 0xFF >> beyond));
        }
        draw(check, 63, 31, 1, "M0x300=0xFF M0=0xAA M1=0xAA", spot(31, 7, 1));
        draw(check, 62, 4, 1, "M0x300=0x3F" + around, "");
        draw(check, 63, 4, 2, "M0x300=0xFF M0x301=0xFF" + around, spot(4, 7, 1) + spot(5, 7, 1));
    }

    private static void lowerEdge(Check check) {
        String bytes = "M0=0x55 M8=0x55 M1792=0x55";
        for (int k = 0; k < 15; k++) {
            bytes += " M" + (0x300 + k) + "=" + (k + 1);
        }
        for (int row = 16; row < 32; row++) {
            String drawn = "";
            for (int k = 0; k < 15 && row + k < 32; k++) {
                drawn += spot(row + k, 0, k + 1);
            }
            draw(check, 0, row, 15, bytes, drawn);
        }
        draw(check, 0, 31, 1, "M0x300=7 M0x301=7 M0=0x55", spot(31, 0, 7));
        draw(check, 0, 31, 2, "M0x300=7 M0x301=7 M0=0x55", spot(31, 0, 7));
    }

    private static void flag(Check check) {
        draw(check, 0, 0, 0, "M0x300=0xFF M1792=0xFF", "");
        draw(check, 0, 0, 1, "M0x300=0x01 M1792=0xFE", "M1792=0xFF V15=0");
        draw(check, 0, 0, 1, "M0x300=0x01 M1792=0xFF", "M1792=0xFE V15=1");
        draw(check, 4, 0, 1, "M0x300=0x0F M1793=0x10", "M1793=0xE0 V15=1");
        draw(check, 4, 0, 1, "M0x300=0xF0 M1792=0x08", "M1792=0x07 V15=1");
        draw(check, 0, 0, 2, "M0x300=0x01 M0x301=0x01 M1792=0x01", "M1792=0 M1800=1 V15=1");
        draw(check, 0, 0, 2, "M0x300=0x01 M0x301=0x01 M1800=0x01", "M1792=1 M1800=0 V15=1");
        draw(check, 60, 4, 1, "M0x300=0x0F" + spot(5, 0, 0xF0) + spot(4, 0, 0xF0), "V15=0");
        draw(check, 0, 31, 2, "M0x301=0xFF M0=0xFF M1792=0xFF", "V15=0");
    }

    private static void flagAsCoordinate(Check check) {
        Turn.step(check, "M0x300=0xC0", "M1794=0xC0 V15=0", 0x6F10, 0xA300, 0xDF11);
        Turn.step(check, "M0x300=0xC0", "M1816=0xC0 V15=0", 0x6F03, 0xA300, 0xD1F1);
        Turn.step(check, "M0x300=0xC0 M1792=0x80", "M1792=0x40 V15=1", 0xA300, 0xDFF1);
    }
}
