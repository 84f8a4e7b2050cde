import java.util.ArrayList;
import java.util.LinkedHashMap;
import java.util.List;
import java.util.Map;
import java.util.function.ToIntFunction;

/**
 * All of a board by name: M0 .. the memory, R0 .. D DF P X T IE Q IDLE the processor, ON LINE PLACE
 * FRAMES EF1 KEY video, S0.0 .. the screen as shown, V0 .. I PC DEPTH DELAY TONE RANDOM the
 * language, and what no call tells but steps do: K0 .. the keys and TOP1 .. what is on the stack.
 */
final class State {
    private record Reading(String name, ToIntFunction<Board> read) {
    }

    private static final String[] CPU = {"D", "DF", "P", "X", "T", "IE", "Q", "IDLE"};
    private static final String[] VIDEO = {"ON", "LINE", "PLACE", "FRAMES", "EF1", "KEY"};
    private static final String[] LANGUAGE = {"I", "PC", "DEPTH", "DELAY", "TONE", "RANDOM"};
    private static final List<Reading> READINGS = readings();
    private static final int NO_ENTRY = -1;

    private State() {
    }

    private static List<Reading> readings() {
        List<Reading> all = new ArrayList<>();
        for (int k = 0; k < 24; k++) {
            int what = k;
            all.add(new Reading(what < 16 ? "R" + what : CPU[what - 16], b -> b.cpu(what)));
        }
        for (int k = 0; k < VIDEO.length; k++) {
            int what = k;
            all.add(new Reading(VIDEO[what], b -> b.video(what)));
        }
        for (int k = 0; k < 22; k++) {
            int what = k;
            all.add(new Reading(what < 16 ? "V" + what : LANGUAGE[what - 16], b -> b.v(what)));
        }
        for (int k = 0; k < 2048; k++) {
            int address = k;
            all.add(new Reading("M" + address, b -> b.peek(address)));
        }
        for (int k = 0; k < 1024; k++) {
            int row = k / 8;
            int column = k % 8;
            all.add(new Reading("S" + row + "." + column, b -> b.shown(row, column)));
        }
        return all;
    }

    /** Read from equal boards, so that the board itself is left alone and none is asked too often. */
    static Map<String, Integer> of(Board board) {
        Map<String, Integer> state = new LinkedHashMap<>();
        Board twin = board.twin();
        for (Reading reading : READINGS) {
            if (twin.callsLeft() == 0) {
                twin = board.twin();
            }
            state.put(reading.name(), reading.read().applyAsInt(twin));
        }
        readStack(board.twin(), state);
        readKeys(board.twin(), state);
        return state;
    }

    private static void readStack(Board twin, Map<String, Integer> state) {
        int depth = twin.v(18);
        for (int k = 12; k >= 1; k--) {
            state.put("TOP" + k, k > depth ? NO_ENTRY : takeOff(twin));
        }
    }

    private static int takeOff(Board twin) {
        int pc = twin.v(17);
        twin.poke(pc % 2048, 0x00);
        twin.poke((pc + 1) % 2048, 0xEE);
        twin.chip(1);
        return twin.v(17);
    }

    private static void readKeys(Board twin, Map<String, Integer> state) {
        twin.pokePairs(512, 0x6000, 0xE09E);
        for (int k = 0; k < 16; k++) {
            twin.poke(513, k);
            twin.start(512);
            twin.chip(2);
            state.put("K" + k, twin.v(17) == 518 ? 1 : 0);
        }
    }

    /** What the next turns do: this shows whether a line is fetched, and a frame interrupted. */
    static List<Integer> future(Board board) {
        List<Integer> answers = new ArrayList<>();
        Board twin = board.twin();
        for (int turn = 0; turn < 40; turn++) {
            answers.add(twin.run(1));
            answers.add(twin.video(1));
            answers.add(twin.video(2));
            answers.add(twin.cpu(0));
            answers.add(twin.cpu(18));
            answers.add(twin.cpu(21));
        }
        return answers;
    }

    /** The names and values of "D=0x10 M0x240=7"; a later one of a name counts. */
    static Map<String, Integer> parse(String parts) {
        Map<String, Integer> values = new LinkedHashMap<>();
        for (String part : parts.trim().split("\\s+")) {
            if (!part.isEmpty()) {
                String[] sides = part.split("=");
                String name = sides[0].startsWith("M0x") ? "M" + Integer.decode(sides[0].substring(1)) : sides[0];
                values.put(name, Integer.decode(sides[1]));
            }
        }
        return values;
    }
}
