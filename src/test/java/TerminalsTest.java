/** Promises 4 to 8: live, draft, publish, received, terminal. */
public final class TerminalsTest {
    private static final Due due = new Due();
    private static final int[] NO_TERMINALS = {-1, 6, 31, Integer.MIN_VALUE, Integer.MAX_VALUE};
    private static final int[] NO_SUBADDRESSES = {0, 4, -1, Integer.MIN_VALUE, Integer.MAX_VALUE};
    private static final int[] NO_INDEXES = {-1, 4, Integer.MIN_VALUE, Integer.MAX_VALUE};
    private static final int[] NO_VALUES = {-1, 65536, Integer.MIN_VALUE, Integer.MAX_VALUE};

    public static void main(String[] args) {
        liveOrNot();
        notLiveKeepsAll();
        notLiveForAll();
        draftAndPublish();
        everyPlaceIsItsOwn();
        wrongDrafts();
        receivedValues();
        wrongReceived();
        statusAndLastCommand();
        synchronizedAndShut();
        marks();
        wrongWhat();
        due.end();
    }

    private static CommandBuses sealed(int[]... messages) {
        CommandBuses b = new CommandBuses();
        for (int[] m : messages) {
            due.yes("message", b.message(m[0], m[1], m[2], m[3], m[4], 1) >= 0);
        }
        due.yes("seal", b.seal(1000000) >= 0);
        return b;
    }

    private static int[] m(int kind, int x, int y, int subaddress, int n) {
        return new int[] {kind, x, y, subaddress, n};
    }

    private static void liveOrNot() {
        for (int t = 0; t < 6; t++) {
            CommandBuses b = sealed(m(0, t, 0, 1, 1), m(4, (t + 1) % 6, 0, 0, 1));
            due.yes("live(t, false)", b.live(t, false));
            due.yes("live(t, false) again", b.live(t, false));
            due.is("run", b.run(), 1);
            due.is("outcome", b.outcome(0), 4);
            due.is("outcome of another", b.outcome(1), 1);
            due.is("last command", b.terminal(t, 1), 0);
            due.is("words of a silent terminal", b.words(), 3 * 2 + 2);
            due.yes("live(t, true)", b.live(t, true));
            due.is("run", b.run(), 2);
            due.is("outcome", b.outcome(0), 1);
        }
        CommandBuses b = new CommandBuses();
        for (int t : NO_TERMINALS) {
            due.no("live(" + t + ", true)", b.live(t, true));
            due.no("live(" + t + ", false)", b.live(t, false));
        }
    }

    private static void notLiveKeepsAll() {
        CommandBuses b = sealed(m(3, 0, 0, 2, 2), m(4, 3, 0, 0, 1), m(0, 3, 0, 1, 1), m(4, 3, 0, 0, 4));
        b.give(0, 0, 7);
        b.give(0, 1, 8);
        b.give(2, 0, 9);
        b.run();
        b.live(3, false);
        b.draft(3, 1, 0, 55);
        b.run();
        due.is("status", b.terminal(3, 0), 6144);
        due.is("last command", b.terminal(3, 1), 3 * 2048 + 1024 + 4);
        due.is("synchronized", b.terminal(3, 2), 1);
        due.is("sender on 1", b.terminal(3, 4), 1);
        due.is("bad frames", b.terminal(3, 5), 1);
        due.is("received", b.received(3, 2, 1), 8);
        due.is("received", b.received(3, 1, 0), 9);
        due.yes("live", b.live(3, true));
        due.is("bad frames", b.terminal(3, 5), 1);
        due.is("synchronized", b.terminal(3, 2), 1);
    }

    private static void notLiveForAll() {
        CommandBuses b = sealed(m(3, 0, 0, 2, 1));
        b.give(0, 0, 31);
        b.live(0, false);
        b.live(4, false);
        due.is("run", b.run(), 1);
        for (int t = 0; t < 6; t++) {
            boolean live = t != 0 && t != 4;
            due.is("received by " + t, b.received(t, 2, 0), live ? 31 : -1);
            due.is("status of " + t, b.terminal(t, 0), t * 2048 + (live ? 16 : 0));
            due.is("last command of " + t, b.terminal(t, 1), live ? 31 * 2048 + 64 + 1 : 0);
        }
    }

    private static void draftAndPublish() {
        CommandBuses b = sealed(m(1, 2, 0, 3, 4));
        for (int k = 0; k < 4; k++) {
            due.yes("draft", b.draft(2, 3, k, 100 + k));
        }
        b.run();
        due.is("not published yet", b.taken(0, 0), 0);
        due.yes("publish", b.publish(2, 3));
        b.run();
        for (int k = 0; k < 4; k++) {
            due.is("published " + k, b.taken(0, k), 100 + k);
        }
        due.yes("draft of 0", b.draft(2, 3, 1, 0));
        due.yes("draft of 65535", b.draft(2, 3, 2, 65535));
        b.run();
        due.is("a draft alone changes nothing", b.taken(0, 1), 101);
        due.yes("publish again", b.publish(2, 3));
        b.run();
        due.is("kept", b.taken(0, 0), 100);
        due.is("changed to 0", b.taken(0, 1), 0);
        due.is("changed to 65535", b.taken(0, 2), 65535);
        due.is("kept", b.taken(0, 3), 103);
        due.yes("publish of a terminal that is not live", b.live(2, false) && b.draft(2, 3, 0, 1)
            && b.publish(2, 3) && b.live(2, true));
        b.run();
        due.is("published while not live", b.taken(0, 0), 1);
        for (int t : NO_TERMINALS) {
            due.no("publish(" + t + ", 1)", b.publish(t, 1));
        }
        for (int s : NO_SUBADDRESSES) {
            due.no("publish(0, " + s + ")", b.publish(0, s));
            due.no("publish(5, " + s + ")", b.publish(5, s));
        }
    }

    private static void everyPlaceIsItsOwn() {
        CommandBuses b = new CommandBuses();
        for (int t = 0; t < 6; t++) {
            for (int s = 1; s <= 3; s++) {
                for (int k = 0; k < 4; k++) {
                    due.yes("draft", b.draft(t, s, k, t * 100 + s * 10 + k));
                }
            }
        }
        b.publish(1, 1);
        b.publish(1, 3);
        b.publish(4, 2);
        int[][] places = {{1, 1}, {1, 2}, {1, 3}, {4, 1}, {4, 2}, {4, 3}, {0, 1}, {5, 3}};
        boolean[] published = {true, false, true, false, true, false, false, false};
        for (int i = 0; i < 8; i++) {
            due.is("message", b.message(1, places[i][0], 0, places[i][1], 4, 1), i);
        }
        b.seal(1000000);
        due.is("run", b.run(), 8);
        for (int i = 0; i < 8; i++) {
            for (int k = 0; k < 4; k++) {
                int value = places[i][0] * 100 + places[i][1] * 10 + k;
                due.is("taken(" + i + ", " + k + ")", b.taken(i, k), published[i] ? value : 0);
            }
        }
    }

    private static void wrongDrafts() {
        CommandBuses b = sealed(m(1, 0, 0, 1, 4), m(1, 5, 0, 3, 4));
        for (int t : NO_TERMINALS) {
            due.no("draft(" + t + ", 1, 0, 5)", b.draft(t, 1, 0, 5));
        }
        for (int s : NO_SUBADDRESSES) {
            due.no("draft(0, " + s + ", 0, 5)", b.draft(0, s, 0, 5));
            due.no("draft(5, " + s + ", 3, 5)", b.draft(5, s, 3, 5));
        }
        for (int k : NO_INDEXES) {
            due.no("draft(0, 1, " + k + ", 5)", b.draft(0, 1, k, 5));
            due.no("draft(5, 3, " + k + ", 5)", b.draft(5, 3, k, 5));
        }
        for (int v : NO_VALUES) {
            due.no("draft(0, 1, 0, " + v + ")", b.draft(0, 1, 0, v));
        }
        b.publish(0, 1);
        b.publish(5, 3);
        b.run();
        for (int k = 0; k < 4; k++) {
            due.is("untouched", b.taken(0, k), 0);
            due.is("untouched", b.taken(1, k), 0);
        }
    }

    private static void receivedValues() {
        CommandBuses b = sealed(m(0, 4, 0, 2, 4), m(0, 4, 0, 3, 2));
        for (int k = 0; k < 4; k++) {
            b.give(0, k, 200 + k);
            b.give(1, k, 300 + k);
        }
        b.run();
        for (int k = 0; k < 4; k++) {
            due.is("received(4, 1, k)", b.received(4, 1, k), -1);
            due.is("received(4, 2, k)", b.received(4, 2, k), 200 + k);
            due.is("received(4, 3, k)", b.received(4, 3, k), k < 2 ? 300 + k : 0);
            due.is("received(3, 2, k)", b.received(3, 2, k), -1);
        }
        b.open();
        due.is("a shorter message", b.message(0, 4, 0, 2, 1, 1), 2);
        b.give(2, 0, 65535);
        b.seal(1000000);
        b.run();
        due.is("received", b.received(4, 2, 0), 65535);
        for (int k = 1; k < 4; k++) {
            due.is("the others are 0", b.received(4, 2, k), 0);
        }
    }

    private static void wrongReceived() {
        CommandBuses b = sealed(m(3, 0, 0, 1, 4), m(3, 0, 0, 2, 4), m(3, 0, 0, 3, 4));
        b.run();
        due.is("received(0, 1, 0)", b.received(0, 1, 0), 0);
        due.is("received(5, 3, 3)", b.received(5, 3, 3), 0);
        for (int t : NO_TERMINALS) {
            due.is("received(" + t + ", 1, 0)", b.received(t, 1, 0), -1);
        }
        for (int s : NO_SUBADDRESSES) {
            due.is("received(2, " + s + ", 0)", b.received(2, s, 0), -1);
        }
        for (int k : NO_INDEXES) {
            due.is("received(2, 1, " + k + ")", b.received(2, 1, k), -1);
            due.is("received(2, 3, " + k + ")", b.received(2, 3, k), -1);
        }
    }

    private static void statusAndLastCommand() {
        CommandBuses b = sealed(m(0, 5, 0, 3, 4), m(1, 1, 0, 2, 3), m(2, 2, 3, 1, 2), m(4, 4, 0, 0, 8),
            m(4, 0, 0, 0, 2));
        b.run();
        due.is("receive", b.terminal(5, 1), 5 * 2048 + 3 * 32 + 4);
        due.is("send", b.terminal(1, 1), 1 * 2048 + 1024 + 2 * 32 + 3);
        due.is("pass, x", b.terminal(2, 1), 2 * 2048 + 1024 + 1 * 32 + 2);
        due.is("pass, y", b.terminal(3, 1), 3 * 2048 + 1 * 32 + 2);
        due.is("mode", b.terminal(4, 1), 4 * 2048 + 1024 + 8);
        due.is("tell status is a last command", b.terminal(0, 1), 1024 + 2);
        for (int t = 0; t < 6; t++) {
            due.is("status", b.terminal(t, 0), t * 2048);
        }
    }

    private static void synchronizedAndShut() {
        CommandBuses b = sealed(m(4, 2, 0, 0, 1), m(4, 3, 0, 0, 4));
        b.run();
        b.run();
        b.run();
        due.is("synchronized", b.terminal(2, 2), 3);
        due.is("another", b.terminal(3, 2), 0);
        due.is("shut on 0", b.terminal(3, 3), 0);
        due.is("shut on 1", b.terminal(3, 4), 1);
        due.is("another", b.terminal(2, 4), 0);
        CommandBuses c = sealed(m(4, 3, 0, 0, 4));
        c.fault(0, 2, 0);
        due.is("run on bus 1", c.run(), 1);
        due.is("bus", c.bus(), 1);
        due.is("shut on 0", c.terminal(3, 3), 1);
        due.is("shut on 1", c.terminal(3, 4), 0);
    }

    /** Each command with the marks that it leaves of ERROR and ALL. */
    private static void marks() {
        int[][] commands = {m(0, 1, 0, 2, 1), m(1, 1, 0, 2, 1), m(2, 1, 0, 2, 1), m(2, 0, 1, 2, 1),
            m(4, 1, 0, 0, 1), m(4, 1, 0, 0, 2), m(4, 1, 0, 0, 4), m(4, 1, 0, 0, 5), m(4, 1, 0, 0, 8),
            m(4, 1, 0, 0, 18)};
        for (int[] command : commands) {
            boolean keeps = command[0] == 4 && (command[4] == 2 || command[4] == 18);
            CommandBuses b = sealed(m(3, 0, 0, 1, 1), command);
            due.is("run", b.run(), 2);
            due.is("ALL", b.terminal(1, 0), 2048 + (keeps ? 16 : 0));
            CommandBuses c = sealed(m(3, 0, 0, 1, 1), command);
            c.fault(0, 0, 1);
            due.is("run", c.run(), 2);
            due.is("ERROR", c.terminal(1, 0), 2048 + (keeps ? 1024 : 0));
        }
    }

    private static void wrongWhat() {
        CommandBuses b = new CommandBuses();
        int[] wrong = {-1, 7, Integer.MIN_VALUE, Integer.MAX_VALUE};
        for (int what : wrong) {
            due.is("terminal(0, " + what + ")", b.terminal(0, what), -1);
            due.is("terminal(5, " + what + ")", b.terminal(5, what), -1);
        }
        for (int t : NO_TERMINALS) {
            for (int what = 0; what <= 6; what++) {
                due.is("terminal(" + t + ", " + what + ")", b.terminal(t, what), -1);
            }
        }
    }
}
