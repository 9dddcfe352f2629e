/** Promises 9 to 11: message, give, taken. */
public final class TableTest {
    private static final Due due = new Due();
    private static final int[] FAR = {Integer.MIN_VALUE, Integer.MAX_VALUE};

    public static void main(String[] args) {
        goodMessages();
        wrongKinds();
        wrongTerminals();
        wrongSubaddresses();
        wrongNumbers();
        modeCodes();
        wrongPeriods();
        fullAndSealed();
        giveAndTaken();
        wrongGives();
        due.end();
    }

    private static int first(int kind, int x, int y, int subaddress, int n, int period) {
        return new CommandBuses().message(kind, x, y, subaddress, n, period);
    }

    private static void goodMessages() {
        for (int kind = 0; kind <= 3; kind++) {
            for (int x = 0; x < 6; x++) {
                for (int s = 1; s <= 3; s++) {
                    for (int n = 1; n <= 4; n++) {
                        for (int period = 1; period <= 4; period *= 2) {
                            due.is("message", first(kind, x, (x + 1) % 6, s, n, period), 0);
                        }
                    }
                }
            }
        }
    }

    private static void wrongKinds() {
        int[] wrong = {-1, 5, 6, 9, FAR[0], FAR[1]};
        for (int kind : wrong) {
            due.is("kind " + kind, first(kind, 0, 1, 1, 1, 1), -1);
            due.is("kind " + kind, first(kind, 0, 1, 2, 2, 2), -1);
        }
    }

    private static void wrongTerminals() {
        int[] wrong = {-1, 6, 31, FAR[0], FAR[1]};
        for (int t : wrong) {
            due.is("GIVE to " + t, first(0, t, 0, 1, 1, 1), -1);
            due.is("TAKE of " + t, first(1, t, 0, 1, 1, 1), -1);
            due.is("PASS of " + t, first(2, t, 0, 1, 1, 1), -1);
            due.is("PASS to " + t, first(2, 0, t, 1, 1, 1), -1);
            due.is("PASS of and to " + t, first(2, t, t, 1, 1, 1), -1);
            due.is("MODE to " + t, first(4, t, 0, 1, 1, 1), -1);
            due.is("TELL ALL with x " + t, first(3, t, 0, 1, 1, 1), 0);
            due.is("TELL ALL with y " + t, first(3, 0, t, 1, 1, 1), 0);
            due.is("GIVE with y " + t, first(0, 0, t, 1, 1, 1), 0);
            due.is("TAKE with y " + t, first(1, 0, t, 1, 1, 1), 0);
            due.is("MODE with y " + t, first(4, 0, t, 1, 1, 1), 0);
        }
        for (int t = 0; t < 6; t++) {
            due.is("PASS to itself", first(2, t, t, 1, 1, 1), -1);
            due.is("GIVE with y the same", first(0, t, t, 1, 1, 1), 0);
            due.is("TAKE with y the same", first(1, t, t, 1, 1, 1), 0);
            due.is("TELL ALL with y the same", first(3, t, t, 1, 1, 1), 0);
            due.is("MODE with y the same", first(4, t, t, 1, 1, 1), 0);
        }
    }

    private static void wrongSubaddresses() {
        int[] wrong = {0, -1, 4, 31, FAR[0], FAR[1]};
        for (int s : wrong) {
            for (int kind = 0; kind <= 3; kind++) {
                due.is("subaddress " + s, first(kind, 0, 1, s, 1, 1), -1);
            }
            due.is("MODE with subaddress " + s, first(4, 0, 1, s, 1, 1), 0);
        }
    }

    private static void wrongNumbers() {
        int[] wrong = {0, -1, 5, 8, 18, FAR[0], FAR[1]};
        for (int n : wrong) {
            for (int kind = 0; kind <= 3; kind++) {
                due.is("kind " + kind + " with n " + n, first(kind, 0, 1, 1, n, 1), -1);
            }
        }
    }

    private static void modeCodes() {
        for (int n = -40; n <= 40; n++) {
            boolean code = n == 1 || n == 2 || n == 4 || n == 5 || n == 8 || n == 18;
            due.is("MODE " + n, first(4, 3, 0, 0, n, 1), code ? 0 : -1);
        }
        due.is("MODE", first(4, 3, 0, 0, FAR[0], 1), -1);
        due.is("MODE", first(4, 3, 0, 0, FAR[1], 1), -1);
    }

    private static void wrongPeriods() {
        int[] wrong = {0, -1, 3, 5, 8, -4, FAR[0], FAR[1]};
        for (int period : wrong) {
            for (int kind = 0; kind <= 4; kind++) {
                due.is("period " + period, first(kind, 0, 1, 1, 1, period), -1);
            }
        }
    }

    private static void fullAndSealed() {
        CommandBuses b = new CommandBuses();
        due.is("BAD takes no number", b.message(0, 6, 0, 1, 1, 1), -1);
        for (int i = 0; i < 8; i++) {
            due.is("number", b.message(4, i % 6, 0, 0, 2, 4), i);
        }
        due.is("the ninth", b.message(4, 0, 0, 0, 2, 4), -2);
        due.is("BAD before FULL", b.message(4, 0, 0, 0, 3, 4), -1);
        due.is("seal", b.seal(1000), 300);
        due.is("SEALED before FULL", b.message(4, 0, 0, 0, 2, 4), -6);
        due.is("SEALED before BAD", b.message(4, 0, 0, 0, 3, 4), -6);
        due.yes("open", b.open());
        due.is("FULL still", b.message(4, 0, 0, 0, 2, 4), -2);
        due.is("no ninth", b.outcome(8), -1);
        CommandBuses c = new CommandBuses();
        c.message(0, 0, 0, 1, 1, 1);
        c.seal(1000);
        due.is("SEALED", c.message(0, 0, 0, 1, 1, 1), -6);
        due.is("SEALED before BAD", c.message(9, 0, 0, 1, 1, 1), -6);
        due.is("not added", c.outcome(1), -1);
        c.open();
        due.is("opened", c.message(0, 0, 0, 1, 1, 1), 1);
    }

    private static void giveAndTaken() {
        CommandBuses b = new CommandBuses();
        for (int i = 0; i < 8; i++) {
            b.message(i % 5, 0, 1, 1, 1, 1);
            for (int k = 0; k < 4; k++) {
                due.is("at first", b.taken(i, k), 0);
            }
        }
        for (int i = 0; i < 8; i++) {
            for (int k = 0; k < 4; k++) {
                due.yes("give", b.give(i, k, 1000 * i + k));
            }
        }
        for (int i = 0; i < 8; i++) {
            for (int k = 0; k < 4; k++) {
                due.is("taken", b.taken(i, k), 1000 * i + k);
            }
        }
        b.seal(1000000);
        due.yes("give while sealed", b.give(7, 3, 65535));
        due.is("taken while sealed", b.taken(7, 3), 65535);
        due.is("taken beside it", b.taken(7, 2), 7002);
        due.yes("give 0", b.give(7, 3, 0));
        due.is("taken 0", b.taken(7, 3), 0);
        b.open();
        due.is("kept when opened", b.taken(6, 1), 6001);
    }

    private static void wrongGives() {
        CommandBuses b = new CommandBuses();
        b.message(0, 0, 1, 1, 4, 1);
        b.message(0, 1, 1, 1, 4, 1);
        int[] noMessages = {-1, 2, 7, 8, FAR[0], FAR[1]};
        for (int i : noMessages) {
            due.no("give(" + i + ", 0, 1)", b.give(i, 0, 1));
            due.is("taken(" + i + ", 0)", b.taken(i, 0), -1);
        }
        int[] noIndexes = {-1, 4, FAR[0], FAR[1]};
        for (int k : noIndexes) {
            due.no("give(1, " + k + ", 1)", b.give(1, k, 1));
            due.is("taken(1, " + k + ")", b.taken(1, k), -1);
        }
        int[] noValues = {-1, 65536, FAR[0], FAR[1]};
        for (int v : noValues) {
            due.no("give(1, 0, " + v + ")", b.give(1, 0, v));
        }
        for (int k = 0; k < 4; k++) {
            due.is("untouched", b.taken(0, k), 0);
            due.is("untouched", b.taken(1, k), 0);
        }
    }
}
