/** Promises 17 and 18: outcome and bus. */
public final class OutcomeTest {
    private static final Due due = new Due();

    public static void main(String[] args) {
        eachOutcome();
        theOtherBusOnlyIfItGoesWell();
        thereAndBackAgain();
        theBusChangesWithinAFrame();
        lastDone();
        wrongMessages();
        due.end();
    }

    private static CommandBuses sealed(int kind, int n) {
        CommandBuses b = new CommandBuses();
        due.is("message", b.message(kind, 1, 2, 1, n, 1), 0);
        due.yes("seal", b.seal(10000) > 0);
        due.is("never done", b.outcome(0), 0);
        return b;
    }

    /** A word of MODE is lost in as many attempts as the outcome needs. */
    private static void eachOutcome() {
        CommandBuses one = sealed(4, 1);
        due.is("run", one.run(), 1);
        due.is("outcome", one.outcome(0), 1);
        due.is("bus", one.bus(), 0);
        CommandBuses two = sealed(4, 1);
        two.fault(0, 0, 0);
        due.is("run", two.run(), 1);
        due.is("outcome", two.outcome(0), 2);
        due.is("bus", two.bus(), 0);
        due.is("on the same bus", two.heard(1), 2048 + 1025);
        CommandBuses three = sealed(4, 1);
        three.fault(0, 2, 0);
        due.is("run", three.run(), 1);
        due.is("outcome", three.outcome(0), 3);
        due.is("bus", three.bus(), 1);
        due.is("on the other bus", three.heard(1), 262144 + 2048 + 1025);
        CommandBuses four = sealed(4, 1);
        four.live(1, false);
        due.is("run", four.run(), 0);
        due.is("outcome", four.outcome(0), 4);
        due.is("bus", four.bus(), 0);
        due.is("three attempts", four.words(), 3);
        due.is("the third", four.heard(0), 262144 + 2048 + 1025);
        due.is("the second", four.heard(1), 2048 + 1025);
        due.is("the first", four.heard(2), 2048 + 1025);
    }

    private static void theOtherBusOnlyIfItGoesWell() {
        for (int kind = 0; kind <= 2; kind++) {
            CommandBuses b = sealed(kind, 2);
            b.fault(0, 2, 0);
            b.fault(1, 1, 3);
            due.is("run", b.run(), 0);
            due.is("outcome", b.outcome(0), 4);
            due.is("bus", b.bus(), 0);
            due.is("run", b.run(), 1);
            due.is("outcome", b.outcome(0), 3);
            due.is("bus", b.bus(), 1);
            due.is("run", b.run(), 1);
            due.is("outcome", b.outcome(0), 1);
            due.is("bus", b.bus(), 1);
        }
    }

    private static void thereAndBackAgain() {
        CommandBuses b = sealed(0, 1);
        b.fault(0, 2, 0);
        b.run();
        due.is("bus", b.bus(), 1);
        b.fault(0, 0, 1000);
        b.fault(1, 2, 0);
        due.is("run", b.run(), 1);
        due.is("outcome", b.outcome(0), 3);
        due.is("bus", b.bus(), 0);
        due.is("run", b.run(), 1);
        due.is("outcome", b.outcome(0), 1);
    }

    private static void theBusChangesWithinAFrame() {
        CommandBuses b = new CommandBuses();
        b.message(4, 0, 0, 0, 1, 1);
        b.message(4, 1, 0, 0, 1, 1);
        b.message(4, 2, 0, 0, 1, 1);
        b.seal(10000);
        b.fault(0, 2, 2);
        due.is("run", b.run(), 3);
        due.is("before the cut", b.outcome(0), 1);
        due.is("at the cut", b.outcome(1), 3);
        due.is("on bus 1 from then on", b.outcome(2), 1);
        due.is("bus", b.bus(), 1);
        due.is("heard", b.heard(0), 262144 + 4096);
    }

    private static void lastDone() {
        CommandBuses b = new CommandBuses();
        b.message(4, 0, 0, 0, 1, 4);
        b.message(4, 1, 0, 0, 1, 4);
        b.seal(10000);
        due.is("run", b.run(), 1);
        due.is("done", b.outcome(0), 1);
        due.is("not done yet", b.outcome(1), 0);
        b.live(0, false);
        due.is("run", b.run(), 1);
        due.is("stays", b.outcome(0), 1);
        due.is("done", b.outcome(1), 1);
        b.run();
        b.run();
        due.is("run", b.run(), 0);
        due.is("done again", b.outcome(0), 4);
        b.open();
        due.is("not sealed", b.outcome(0), 4);
        due.is("not sealed", b.outcome(1), 1);
    }

    private static void wrongMessages() {
        CommandBuses b = new CommandBuses();
        due.is("no message yet", b.outcome(0), -1);
        b.message(4, 0, 0, 0, 1, 4);
        due.is("one", b.outcome(0), 0);
        int[] wrong = {-1, 1, 7, 8, Integer.MIN_VALUE, Integer.MAX_VALUE};
        for (int i : wrong) {
            due.is("outcome(" + i + ")", b.outcome(i), -1);
        }
        for (int i = 1; i < 8; i++) {
            b.message(4, 0, 0, 0, 1, 4);
            due.is("outcome(" + i + ")", b.outcome(i), 0);
        }
        due.is("outcome(8)", b.outcome(8), -1);
    }
}
