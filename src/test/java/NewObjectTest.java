/** Promise 1: what a new object answers before anything was changed, and the constants. */
public final class NewObjectTest {
    private static final Due due = new Due();

    public static void main(String[] args) {
        constants();
        terminals();
        controller();
        noFaultIsArmed();
        objectsAreApart();
        due.end();
    }

    private static void constants() {
        due.is("BAD", CommandBuses.BAD, -1);
        due.is("FULL", CommandBuses.FULL, -2);
        due.is("SYNC", CommandBuses.SYNC, -3);
        due.is("HALVES", CommandBuses.HALVES, -4);
        due.is("PARITY", CommandBuses.PARITY, -5);
        due.is("SEALED", CommandBuses.SEALED, -6);
    }

    private static void terminals() {
        CommandBuses b = new CommandBuses();
        for (int t = 0; t < 6; t++) {
            due.is("status of " + t, b.terminal(t, 0), t * 2048);
            for (int what = 1; what <= 6; what++) {
                due.is("terminal(" + t + ", " + what + ")", b.terminal(t, what), 0);
            }
            for (int s = 1; s <= 3; s++) {
                for (int k = 0; k < 4; k++) {
                    due.is("received(" + t + ", " + s + ", " + k + ")", b.received(t, s, k), -1);
                }
            }
        }
    }

    private static void controller() {
        CommandBuses b = new CommandBuses();
        due.is("bus()", b.bus(), 0);
        due.is("words()", b.words(), 0);
        due.is("heard(0)", b.heard(0), -1);
        due.is("outcome(0)", b.outcome(0), -1);
        due.is("taken(0, 0)", b.taken(0, 0), -1);
        due.no("give(0, 0, 1)", b.give(0, 0, 1));
        due.is("load(0)", b.load(0), -1);
        due.is("run()", b.run(), -1);
        due.no("open()", b.open());
        due.is("message(..)", b.message(0, 0, 0, 1, 1, 1), 0);
    }

    /** All are live, and drafts and messages to send are 0: every terminal sends four zeros. */
    private static void noFaultIsArmed() {
        for (int s = 1; s <= 3; s++) {
            CommandBuses b = new CommandBuses();
            for (int t = 0; t < 6; t++) {
                due.is("message", b.message(1, t, 0, s, 4, 1), t);
                for (int k = 0; k < 4; k++) {
                    due.is("value at first", b.taken(t, k), 0);
                    due.yes("give", b.give(t, k, 9));
                }
            }
            due.is("seal", b.seal(100000), 6 * 3 * (20 * 6 + 10));
            due.is("run", b.run(), 6);
            due.is("words", b.words(), 6 * 6);
            for (int t = 0; t < 6; t++) {
                due.is("outcome", b.outcome(t), 1);
                for (int k = 0; k < 4; k++) {
                    due.is("taken", b.taken(t, k), 0);
                }
            }
            for (int t = 0; t < 6; t++) {
                due.yes("publish", b.publish(t, s));
            }
            due.is("run", b.run(), 6);
            due.is("draft at first", b.taken(5, 3), 0);
        }
    }

    private static void objectsAreApart() {
        CommandBuses a = new CommandBuses();
        CommandBuses b = new CommandBuses();
        a.message(0, 1, 0, 1, 1, 1);
        a.give(0, 0, 5);
        a.live(2, false);
        a.seal(1000);
        a.run();
        due.is("words of the other", b.words(), 0);
        due.is("received of the other", b.received(1, 1, 0), -1);
        due.is("message of the other", b.message(1, 2, 0, 1, 1, 1), 0);
        due.is("seal of the other", b.seal(1000), 210);
        due.is("run of the other", b.run(), 1);
    }
}
