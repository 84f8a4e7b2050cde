/** Promises 4 and 5: cpu and set. */
public final class PartsTest {
    public static void main(String[] args) {
        Check check = new Check();
        for (int what = 0; what <= 22; what++) {
            holdsItsKind(check, what);
            standsAlone(check, what);
        }
        refusesOthers(check);
        tellsIdle(check);
        check.end();
    }

    private static int most(int what) {
        if (what < 16) {
            return 65535;
        }
        if (what == 16 || what == 20) {
            return 255;
        }
        return what == 18 || what == 19 ? 15 : 1;
    }

    private static void holdsItsKind(Check check, int what) {
        VipBoard board = new VipBoard();
        int most = most(what);
        for (int value : new int[] {most, 0, most / 2, 1}) {
            board.set(what, value);
            check.due("cpu(" + what + ") after set to " + value, board.cpu(what), value);
        }
        for (int value : new int[] {-1, most + 1, Integer.MAX_VALUE, Integer.MIN_VALUE}) {
            check.throwsDue("set(" + what + ", " + value + ")", Check.ILLEGAL_ARGUMENT,
                    () -> board.set(what, value));
        }
        check.due("cpu(" + what + ") after refused sets", board.cpu(what), 1);
    }

    private static void standsAlone(Check check, int what) {
        VipBoard board = new VipBoard();
        board.set(what, what == 21 ? 0 : 1);
        for (int other = 0; other <= 23; other++) {
            if (other != what) {
                check.due("cpu(" + other + ") after set(" + what + ", ..)", board.cpu(other),
                        other == 21 ? 1 : 0);
            }
        }
    }

    private static void refusesOthers(Check check) {
        VipBoard board = new VipBoard();
        for (int what : new int[] {-1, 24, 100, Integer.MAX_VALUE, Integer.MIN_VALUE}) {
            check.throwsDue("cpu(" + what + ")", Check.NO_SUCH, () -> board.cpu(what));
            check.throwsDue("set(" + what + ", 0)", Check.ILLEGAL_ARGUMENT, () -> board.set(what, 0));
        }
        check.throwsDue("set(23, 0)", Check.ILLEGAL_ARGUMENT, () -> board.set(23, 0));
        check.throwsDue("set(23, 1)", Check.ILLEGAL_ARGUMENT, () -> board.set(23, 1));
        check.due("cpu(23)", board.cpu(23), 0);
    }

    private static void tellsIdle(Check check) {
        VipBoard board = new VipBoard();
        check.due("run(1)", board.run(1), 2);
        check.due("cpu(23) after IDLE", board.cpu(23), 1);
        board.set(0, 100);
        check.due("cpu(23) after a set", board.cpu(23), 1);
        check.due("run(3) while idle", board.run(3), 3);
        check.due("cpu(0) while idle", board.cpu(0), 100);
    }
}
