/** Counts the answers that are not as due, and ends a test with exit code 1 if there was one. */
final class Check {
    static final Class<? extends RuntimeException> ILLEGAL_ARGUMENT = IllegalArgumentException.class;
    static final Class<? extends RuntimeException> ILLEGAL_STATE = IllegalStateException.class;
    static final Class<? extends RuntimeException> UNSUPPORTED = UnsupportedOperationException.class;
    static final Class<? extends RuntimeException> NO_SUCH = java.util.NoSuchElementException.class;

    private int asked;
    private int wrong;

    void due(String call, long got, long want) {
        asked++;
        if (got != want) {
            wrong++;
            System.out.println(call + " answered " + got + ", due is " + want);
        }
    }

    void throwsDue(String call, Class<? extends RuntimeException> want, Runnable action) {
        asked++;
        String got = "nothing";
        try {
            action.run();
        } catch (RuntimeException e) {
            got = e.getClass().getName();
        }
        if (!got.equals(want.getName())) {
            wrong++;
            System.out.println(call + " threw " + got + ", due is " + want.getName());
        }
    }

    void end() {
        if (wrong == 0 && asked > 0) {
            return;
        }
        System.out.println(wrong + " of " + asked + " answers are not as due");
        System.exit(1);
    }

    static void pokeAll(VipBoard board, int address, int... bytes) {
        for (int k = 0; k < bytes.length; k++) {
            board.poke(address + k, bytes[k]);
        }
    }

    /** The instructions of the language, a pair each, from 512 on. */
    static VipBoard chipProgram(int... pairs) {
        VipBoard board = new VipBoard();
        pokePairs(board, 512, pairs);
        return board;
    }

    static void pokePairs(VipBoard board, int address, int... pairs) {
        for (int k = 0; k < pairs.length; k++) {
            pokeAll(board, address + 2 * k, pairs[k] >> 8, pairs[k] & 255);
        }
    }
}
