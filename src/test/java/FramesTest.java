/** Promises 12 to 14: seal, open, load. */
public final class FramesTest {
    private static final Due due = new Due();

    public static void main(String[] args) {
        lengths();
        phases();
        leastPhaseAmongEqualOnes();
        greatestOfItsOwnFrames();
        budget();
        emptyTable();
        frameZeroIsNext();
        openKeepsAll();
        sealedAgainWithMore();
        wrongLoads();
        due.end();
    }

    /** Commands, data words and statuses of one attempt: 60 each, and 30 more for a status. */
    private static void lengths() {
        for (int n = 1; n <= 4; n++) {
            lengthOf(0, n, 60 + 60 * n + 90);
            lengthOf(1, n, 60 + 90 + 60 * n);
            lengthOf(2, n, 120 + 90 + 60 * n + 90);
            lengthOf(3, n, 60 + 60 * n);
        }
        int[] codes = {1, 2, 4, 5, 8};
        for (int code : codes) {
            lengthOf(4, code, 60 + 90);
        }
        lengthOf(4, 18, 60 + 90 + 60);
    }

    private static void lengthOf(int kind, int n, int want) {
        CommandBuses b = new CommandBuses();
        b.message(kind, 0, 1, 1, n, 1);
        due.is("length of kind " + kind + " with n " + n, b.seal(want), want);
        for (int frame = 0; frame < 4; frame++) {
            due.is("load", b.load(frame), want);
        }
    }

    private static void loads(CommandBuses b, int... want) {
        int greatest = 0;
        for (int load : want) {
            greatest = Math.max(greatest, load);
        }
        due.is("seal", b.seal(100000), greatest);
        for (int frame = 0; frame < 4; frame++) {
            due.is("load(" + frame + ")", b.load(frame), want[frame]);
        }
    }

    private static void phases() {
        CommandBuses b = new CommandBuses();
        b.message(4, 0, 0, 0, 1, 4);
        b.message(4, 0, 0, 0, 1, 4);
        b.message(4, 0, 0, 0, 1, 2);
        b.message(4, 0, 0, 0, 1, 4);
        b.message(4, 0, 0, 0, 1, 4);
        b.message(4, 0, 0, 0, 1, 1);
        loads(b, 450, 450, 300, 300);
        CommandBuses c = new CommandBuses();
        c.message(4, 0, 0, 0, 1, 2);
        c.message(4, 0, 0, 0, 1, 2);
        c.message(3, 0, 0, 1, 1, 2);
        loads(c, 270, 150, 270, 150);
        CommandBuses d = new CommandBuses();
        for (int i = 0; i < 5; i++) {
            d.message(3, 0, 0, 1, 1, 4);
        }
        loads(d, 240, 120, 120, 120);
    }

    private static void leastPhaseAmongEqualOnes() {
        CommandBuses b = new CommandBuses();
        b.message(3, 0, 0, 1, 1, 4);
        loads(b, 120, 0, 0, 0);
        b.open();
        b.message(3, 0, 0, 1, 1, 4);
        loads(b, 120, 120, 0, 0);
        b.open();
        b.message(3, 0, 0, 1, 1, 2);
        loads(b, 240, 120, 120, 0);
        b.open();
        b.message(3, 0, 0, 1, 1, 4);
        loads(b, 240, 120, 120, 120);
        b.open();
        b.message(3, 0, 0, 1, 1, 4);
        loads(b, 240, 240, 120, 120);
    }

    /** The greatest load of the frames that it would be in counts, not their sum, nor all frames. */
    private static void greatestOfItsOwnFrames() {
        CommandBuses b = new CommandBuses();
        b.message(3, 0, 0, 1, 4, 4);
        b.message(3, 0, 0, 1, 3, 4);
        b.message(3, 0, 0, 1, 1, 4);
        b.message(3, 0, 0, 1, 3, 4);
        loads(b, 300, 240, 120, 240);
        b.open();
        b.message(3, 0, 0, 1, 1, 2);
        loads(b, 300, 360, 120, 360);
        b.open();
        b.message(3, 0, 0, 1, 1, 4);
        loads(b, 300, 360, 240, 360);
        b.open();
        b.message(3, 0, 0, 1, 1, 2);
        loads(b, 420, 360, 360, 360);
    }

    private static void budget() {
        CommandBuses b = new CommandBuses();
        b.message(0, 0, 0, 1, 1, 2);
        b.message(0, 0, 0, 1, 4, 4);
        due.is("seal(-1)", b.seal(-1), -1);
        due.is("seal(MIN)", b.seal(Integer.MIN_VALUE), -1);
        due.is("seal(0)", b.seal(0), -2);
        due.is("seal(389)", b.seal(389), -2);
        due.is("load", b.load(0), -1);
        due.is("run", b.run(), -1);
        due.no("open", b.open());
        due.is("message", b.message(4, 0, 0, 0, 2, 4), 2);
        due.is("seal(390)", b.seal(390), 390);
        due.is("load(0)", b.load(0), 210);
        due.is("load(1)", b.load(1), 390);
        due.is("load(2)", b.load(2), 210);
        due.is("load(3)", b.load(3), 150);
        due.is("sealed already", b.seal(390), -6);
        due.is("sealed already, before BAD", b.seal(-1), -6);
        due.is("sealed already, before FULL", b.seal(0), -6);
        due.yes("open", b.open());
        due.is("seal(MAX)", b.seal(Integer.MAX_VALUE), 390);
    }

    private static void emptyTable() {
        CommandBuses b = new CommandBuses();
        due.is("seal(0)", b.seal(0), 0);
        due.is("load(3)", b.load(3), 0);
        due.is("run", b.run(), 0);
        due.is("message", b.message(4, 0, 0, 0, 2, 4), -6);
        due.yes("open", b.open());
        due.is("message", b.message(4, 0, 0, 0, 2, 4), 0);
        due.is("seal(149)", b.seal(149), -2);
        due.is("seal(150)", b.seal(150), 150);
    }

    private static void frameZeroIsNext() {
        CommandBuses b = new CommandBuses();
        b.message(4, 0, 0, 0, 1, 4);
        b.seal(1000);
        int[] want = {1, 0, 0, 0, 1, 0, 0, 0, 1, 0};
        for (int i = 0; i < want.length; i++) {
            due.is("run " + i, b.run(), want[i]);
        }
        b.open();
        b.seal(1000);
        due.is("run after sealing again", b.run(), 1);
        due.is("a refused seal", b.seal(5), -6);
        due.is("run goes on", b.run(), 0);
    }

    private static void openKeepsAll() {
        CommandBuses b = new CommandBuses();
        b.message(0, 1, 0, 2, 2, 1);
        b.message(0, 2, 0, 2, 1, 1);
        b.give(0, 1, 44);
        b.live(2, false);
        b.fault(0, 2, 0);
        b.seal(10000);
        for (int i = 0; i < 3; i++) {
            b.run();
        }
        int words = b.words();
        due.yes("open", b.open());
        due.no("open again", b.open());
        due.is("bus", b.bus(), 1);
        due.is("words", b.words(), words);
        due.is("outcome", b.outcome(0), 1);
        due.is("outcome", b.outcome(1), 4);
        due.is("taken", b.taken(0, 1), 44);
        due.is("received", b.received(1, 2, 1), 44);
        due.is("bad frames", b.terminal(2, 5), 3);
        due.is("dropped", b.terminal(2, 6), 1);
        due.is("load", b.load(0), -1);
        due.is("run", b.run(), -1);
        due.is("words", b.words(), words);
        b.seal(10000);
        due.is("bad frames", b.terminal(2, 5), 3);
        due.is("dropped", b.terminal(2, 6), 1);
        due.is("outcome", b.outcome(0), 1);
        due.is("run, bus 0 still cut", b.run(), 1);
        due.is("outcome", b.outcome(0), 1);
    }

    private static void sealedAgainWithMore() {
        CommandBuses b = new CommandBuses();
        b.message(4, 0, 0, 0, 1, 4);
        b.seal(1000);
        b.run();
        b.open();
        b.message(4, 1, 0, 0, 1, 4);
        due.is("seal", b.seal(1000), 150);
        due.is("frame 0", b.run(), 1);
        due.is("synchronized", b.terminal(0, 2), 2);
        due.is("not yet", b.outcome(1), 0);
        due.is("frame 1", b.run(), 1);
        due.is("done", b.outcome(1), 1);
    }

    private static void wrongLoads() {
        CommandBuses b = new CommandBuses();
        due.is("not sealed", b.load(0), -1);
        b.message(4, 0, 0, 0, 1, 1);
        b.seal(1000);
        int[] wrong = {-1, 4, Integer.MIN_VALUE, Integer.MAX_VALUE};
        for (int frame : wrong) {
            due.is("load(" + frame + ")", b.load(frame), -1);
        }
        due.is("load(3)", b.load(3), 150);
        b.open();
        due.is("opened", b.load(0), -1);
    }
}
