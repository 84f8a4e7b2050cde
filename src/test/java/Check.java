import java.util.List;
import java.util.Map;

/** Counts the answers that are not as due, and ends a test with exit code 1 if there was one. */
final class Check {
    static final Class<? extends RuntimeException> ILLEGAL_ARGUMENT = IllegalArgumentException.class;
    static final Class<? extends RuntimeException> ILLEGAL_STATE = IllegalStateException.class;
    static final Class<? extends RuntimeException> UNSUPPORTED = UnsupportedOperationException.class;
    static final Class<? extends RuntimeException> NO_SUCH = java.util.NoSuchElementException.class;

    private String about = "";
    private int asked;
    private int wrong;

    /** What is written before each call that answers wrong from now on. */
    void about(String text) {
        about = text;
    }

    int asked() {
        return asked;
    }

    void due(String call, long got, long want) {
        asked++;
        if (got != want) {
            fault(call + " answered " + got + ", due is " + want);
        }
    }

    private void fault(String text) {
        wrong++;
        System.out.println(about + text);
    }

    void throwsDue(String call, Class<? extends RuntimeException> want, Runnable action) {
        asked++;
        String got = "nothing";
        try {
            action.run();
        } catch (RuntimeException e) {
            got = e.getClass().getName();
        }
        if (!got.equals(want.getName())) {
            fault(call + " threw " + got + ", due is " + want.getName());
        }
    }

    /** The action makes of the board what want names, and leaves all else of it as it was. */
    void changes(String call, Board board, Runnable action, String want) {
        Map<String, Integer> before = State.of(board);
        action.run();
        Map<String, Integer> after = State.of(board);
        Map<String, Integer> wanted = State.parse(want);
        for (String name : wanted.keySet()) {
            due(call + ": there is a " + name, after.containsKey(name) ? 1 : 0, 1);
        }
        for (String name : after.keySet()) {
            due(call + ": " + name + " behind it", after.get(name),
                    wanted.getOrDefault(name, before.get(name)));
        }
    }

    /** The call throws this, and nothing of the board has changed, nor will by it. */
    void refused(String call, Board board, Class<? extends RuntimeException> want, Runnable action) {
        List<Integer> future = State.future(board);
        changes(call, board, () -> throwsDue(call, want, action), "");
        due(call + ": the next turns are the same", State.future(board).equals(future) ? 1 : 0, 1);
    }

    void end() {
        if (wrong == 0 && asked > 0) {
            return;
        }
        System.out.println(wrong + " of " + asked + " answers are not as due");
        System.exit(1);
    }

    static void pokeAll(VipBoard board, int address, int... bytes) {
        for (int k = 0; k < bytes.length; k++) {
            board.poke(address + k, bytes[k]);
        }
    }

    /** The instructions of the language, a pair each, from 512 on. */
    static VipBoard chipProgram(int... pairs) {
        VipBoard board = new VipBoard();
        pokePairs(board, 512, pairs);
        return board;
    }

    static void pokePairs(VipBoard board, int address, int... pairs) {
        for (int k = 0; k < pairs.length; k++) {
            pokeAll(board, address + 2 * k, pairs[k] >> 8, pairs[k] & 255);
        }
    }
}
