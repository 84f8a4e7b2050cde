import java.util.ArrayList;
import java.util.List;
import java.util.Map;
import java.util.function.Consumer;
import java.util.function.ToIntFunction;

/**
 * A VipBoard that remembers its calls, so that equal boards can be made from it, and that never
 * makes more calls than the document gives an object.
 */
final class Board {
    static final int MOST_CALLS = 512;
    private static final List<String> SETTABLE = List.of("D", "DF", "P", "X", "T", "IE", "Q");

    private final VipBoard board = new VipBoard();
    private final List<Consumer<VipBoard>> calls = new ArrayList<>();

    /** A new board with these parts, told as in "P=3 R3=0x130 M304=0x17 K9=1 PC=512". */
    static Board with(String parts) {
        Board board = new Board();
        for (Map.Entry<String, Integer> part : State.parse(parts).entrySet()) {
            board.put(part.getKey(), part.getValue());
        }
        return board;
    }

    void put(String name, int value) {
        if (SETTABLE.contains(name)) {
            set(16 + SETTABLE.indexOf(name), value);
            return;
        }
        if (name.equals("PC")) {
            start(value);
            return;
        }
        int number = Integer.parseInt(name.substring(1));
        switch (name.charAt(0)) {
            case 'R' -> set(number, value);
            case 'M' -> poke(number, value);
            case 'K' -> key(number, value == 1);
            default -> throw new AssertionError("a test can't put " + name);
        }
    }

    /** Another board with the same calls behind it. */
    Board twin() {
        Board twin = new Board();
        for (Consumer<VipBoard> call : calls) {
            twin.repeat(call);
        }
        return twin;
    }

    private void repeat(Consumer<VipBoard> call) {
        calls.add(call);
        try {
            call.accept(board);
        } catch (RuntimeException refused) {
            // It was refused the first time too.
        }
    }

    int callsLeft() {
        return MOST_CALLS - calls.size();
    }

    private void tell(Consumer<VipBoard> call) {
        if (callsLeft() <= 0) {
            throw new AssertionError("a test makes more than " + MOST_CALLS + " calls on one object");
        }
        calls.add(call);
        call.accept(board);
    }

    private int ask(ToIntFunction<VipBoard> call) {
        int[] answer = new int[1];
        tell(b -> answer[0] = call.applyAsInt(b));
        return answer[0];
    }

    void poke(int address, int v) {
        tell(b -> b.poke(address, v));
    }

    int peek(int address) {
        return ask(b -> b.peek(address));
    }

    int cpu(int what) {
        return ask(b -> b.cpu(what));
    }

    void set(int what, int v) {
        tell(b -> b.set(what, v));
    }

    void key(int k, boolean down) {
        tell(b -> b.key(k, down));
    }

    int run(int n) {
        return ask(b -> b.run(n));
    }

    int video(int what) {
        return ask(b -> b.video(what));
    }

    int shown(int row, int k) {
        return ask(b -> b.shown(row, k));
    }

    int chip(int n) {
        return ask(b -> b.chip(n));
    }

    int v(int what) {
        return ask(b -> b.v(what));
    }

    void start(int pc) {
        tell(b -> b.start(pc));
    }

    void pokeAll(int address, int... bytes) {
        for (int k = 0; k < bytes.length; k++) {
            poke(address + k, bytes[k]);
        }
    }

    void pokePairs(int address, int... pairs) {
        for (int k = 0; k < pairs.length; k++) {
            pokeAll(address + 2 * k, pairs[k] >> 8, pairs[k] & 255);
        }
    }
}
