import java.util.ArrayList;
import java.util.Arrays;
import java.util.List;

/**
 * Every refused call answers its refusal and changes nothing: of two objects with the same calls one
 * makes the refused call too, and then both are looked at, or go on alike and are looked at then.
 */
public final class RefusedTest {
    private static final int MIN = Integer.MIN_VALUE;
    private static final int MAX = Integer.MAX_VALUE;
    private static final int[] NO_TERMINALS = {-1, 6, MIN, MAX};
    private static final int[] NO_SUBADDRESSES = {0, 4, MIN, MAX};
    private static final int[] NO_INDEXES = {-1, 4, MIN, MAX};
    private static final int[] NO_VALUES = {-1, 65536, MIN, MAX};
    private static final Due due = new Due();

    /** A boolean answer counts 1 or 0. */
    private interface Call {
        long on(CommandBuses b);
    }

    private record Refused(String name, long answer, Call call) {
    }

    /** The subaddress says which of the drafts the table will show. */
    private interface State {
        CommandBuses made(int subaddress);
    }

    public static void main(String[] args) {
        List<Refused> always = new ArrayList<>();
        wordCalls(always);
        terminalCalls(always);
        controllerCalls(always);
        List<Refused> notSealed = new ArrayList<>(always);
        messageCalls(notSealed, -1);
        notSealedCalls(notSealed);
        List<Refused> sealed = new ArrayList<>(always);
        messageCalls(sealed, -6);
        sealedCalls(sealed);

        eachIn("a new object", s -> new CommandBuses(), notSealed);
        eachIn("an empty table, sealed", s -> Setup.sealed(), sealed);
        List<Refused> filled = new ArrayList<>(notSealed);
        tooLittleBudget(filled);
        eachIn("some messages", RefusedTest::filled, filled);
        eachIn("some messages, sealed, with terminals dropped", RefusedTest::running, sealed);
        eachIn("opened again", RefusedTest::opened, filled);
        eachIn("a full table, sealed", RefusedTest::fullAndSealed, sealed);
        tableIsFull(filled);
        eachIn("a full table", RefusedTest::full, filled);
        due.end();
    }

    private static long bit(boolean answer) {
        return answer ? 1 : 0;
    }

    // ---- the refused calls

    private static void bad(List<Refused> to, String name, Call call) {
        to.add(new Refused(name, -1, call));
    }

    private static void no(List<Refused> to, String name, Call call) {
        to.add(new Refused(name, 0, call));
    }

    private static void wordCalls(List<Refused> to) {
        for (int v : NO_VALUES) {
            bad(to, "encode(true, " + v + ")", b -> b.encode(true, v));
        }
        bad(to, "decode(-1)", b -> b.decode(-1));
        bad(to, "decode(2^40)", b -> b.decode(1L << 40));
        to.add(new Refused("decode(0)", -3, b -> b.decode(0)));
        to.add(new Refused("decode of no halves", -4, b -> b.decode(7L << 34)));
        to.add(new Refused("decode of even parity", -5, b -> b.decode(b.encode(true, 0) ^ 3)));
    }

    private static void terminalCalls(List<Refused> to) {
        for (int t : NO_TERMINALS) {
            no(to, "live(" + t + ", true)", b -> bit(b.live(t, true)));
            no(to, "live(" + t + ", false)", b -> bit(b.live(t, false)));
            no(to, "draft(" + t + ", 1, 0, 5)", b -> bit(b.draft(t, 1, 0, 5)));
            no(to, "draft(" + t + ", 3, 3, 5)", b -> bit(b.draft(t, 3, 3, 5)));
            no(to, "publish(" + t + ", 1)", b -> bit(b.publish(t, 1)));
            no(to, "publish(" + t + ", 3)", b -> bit(b.publish(t, 3)));
            bad(to, "received(" + t + ", 1, 0)", b -> b.received(t, 1, 0));
            bad(to, "terminal(" + t + ", 0)", b -> b.terminal(t, 0));
        }
        int[] ends = {0, 5};
        for (int t : ends) {
            for (int s : NO_SUBADDRESSES) {
                no(to, "draft(" + t + ", " + s + ", 0, 5)", b -> bit(b.draft(t, s, 0, 5)));
                no(to, "publish(" + t + ", " + s + ")", b -> bit(b.publish(t, s)));
                bad(to, "received(" + t + ", " + s + ", 0)", b -> b.received(t, s, 0));
            }
            for (int k : NO_INDEXES) {
                for (int i = 1; i <= 3; i++) {
                    int s = i;
                    no(to, "draft(" + t + ", " + s + ", " + k + ", 5)", b -> bit(b.draft(t, s, k, 5)));
                    bad(to, "received(" + t + ", " + s + ", " + k + ")", b -> b.received(t, s, k));
                }
            }
            for (int v : NO_VALUES) {
                no(to, "draft(" + t + ", 2, 1, " + v + ")", b -> bit(b.draft(t, 2, 1, v)));
            }
            int[] noWhats = {-1, 7, MIN, MAX};
            for (int what : noWhats) {
                bad(to, "terminal(" + t + ", " + what + ")", b -> b.terminal(t, what));
            }
        }
    }

    private static void controllerCalls(List<Refused> to) {
        int[] noMessages = {-1, 8, MIN, MAX};
        for (int i : noMessages) {
            no(to, "give(" + i + ", 0, 5)", b -> bit(b.give(i, 0, 5)));
            bad(to, "taken(" + i + ", 0)", b -> b.taken(i, 0));
            bad(to, "outcome(" + i + ")", b -> b.outcome(i));
        }
        for (int k : NO_INDEXES) {
            no(to, "give(0, " + k + ", 5)", b -> bit(b.give(0, k, 5)));
            no(to, "give(7, " + k + ", 5)", b -> bit(b.give(7, k, 5)));
            bad(to, "taken(0, " + k + ")", b -> b.taken(0, k));
        }
        for (int v : NO_VALUES) {
            no(to, "give(0, 0, " + v + ")", b -> bit(b.give(0, 0, v)));
            no(to, "give(7, 3, " + v + ")", b -> bit(b.give(7, 3, v)));
        }
        int[] noFrames = {-1, 4, MIN, MAX};
        for (int f : noFrames) {
            bad(to, "load(" + f + ")", b -> b.load(f));
        }
        int[] noWords = {-1, 60, MIN, MAX};
        for (int i : noWords) {
            bad(to, "heard(" + i + ")", b -> b.heard(i));
        }
        faultCalls(to);
    }

    private static void faultCalls(List<Refused> to) {
        int[] noBuses = {-1, 2, MIN, MAX};
        for (int bus : noBuses) {
            no(to, "fault(" + bus + ", 2, 0)", b -> bit(b.fault(bus, 2, 0)));
        }
        for (int i = 0; i <= 1; i++) {
            int bus = i;
            int[] noKinds = {-1, 3, MIN, MAX};
            for (int kind : noKinds) {
                no(to, "fault(" + bus + ", " + kind + ", 0)", b -> bit(b.fault(bus, kind, 0)));
            }
            int[] noDelays = {-1, 1001, MIN, MAX};
            for (int k : noDelays) {
                no(to, "fault(" + bus + ", 0, " + k + ")", b -> bit(b.fault(bus, 0, k)));
                no(to, "fault(" + bus + ", 2, " + k + ")", b -> bit(b.fault(bus, 2, k)));
            }
        }
    }

    /** Messages that are wrong in one thing each. */
    private static void messageCalls(List<Refused> to, long answer) {
        int[][] wrong = {{-1, 0, 1, 1, 1, 1}, {5, 0, 1, 1, 1, 1}, {0, -1, 0, 1, 1, 1}, {0, 6, 0, 1, 1, 1},
            {1, -1, 0, 1, 1, 1}, {1, 6, 0, 1, 1, 1}, {2, -1, 0, 1, 1, 1}, {2, 6, 0, 1, 1, 1},
            {2, 0, -1, 1, 1, 1}, {2, 0, 6, 1, 1, 1}, {2, 3, 3, 1, 1, 1}, {4, -1, 0, 1, 1, 1},
            {4, 6, 0, 1, 1, 1}, {0, 0, 0, 0, 1, 1}, {1, 0, 0, 4, 1, 1}, {3, 0, 0, 0, 1, 1},
            {3, 0, 0, 4, 1, 1}, {0, 0, 0, 1, 0, 1}, {1, 0, 0, 1, 5, 1}, {2, 0, 1, 1, 0, 1},
            {3, 0, 0, 1, 5, 1}, {4, 0, 0, 0, 0, 1}, {4, 0, 0, 0, 3, 1}, {4, 0, 0, 0, 19, 1},
            {0, 0, 0, 1, 1, 0}, {1, 0, 0, 1, 1, 3}, {3, 0, 0, 1, 1, 5}, {4, 0, 0, 0, 1, 8}};
        for (int[] m : wrong) {
            to.add(new Refused("message " + Arrays.toString(m), answer, b -> Setup.add(b, m)));
        }
    }

    private static void notSealedCalls(List<Refused> to) {
        bad(to, "run()", b -> b.run());
        no(to, "open()", b -> bit(b.open()));
        bad(to, "seal(-1)", b -> b.seal(-1));
        bad(to, "seal(MIN)", b -> b.seal(MIN));
        for (int i = 0; i < 4; i++) {
            int f = i;
            bad(to, "load(" + f + ")", b -> b.load(f));
        }
    }

    private static void sealedCalls(List<Refused> to) {
        int[] budgets = {MIN, -1, 0, MAX};
        for (int budget : budgets) {
            to.add(new Refused("seal(" + budget + ")", -6, b -> b.seal(budget)));
        }
        to.add(new Refused("a good message", -6, b -> b.message(0, 0, 0, 1, 1, 1)));
    }

    private static void tooLittleBudget(List<Refused> to) {
        to.add(new Refused("seal(0)", -2, b -> b.seal(0)));
        to.add(new Refused("seal(1559)", -2, b -> b.seal(1559)));
    }

    private static void tableIsFull(List<Refused> to) {
        for (int kind = 0; kind <= 4; kind++) {
            int[] m = {kind, 0, 1, 1, 1, 1};
            to.add(new Refused("a ninth message " + Arrays.toString(m), -2, b -> Setup.add(b, m)));
        }
    }

    // ---- the states

    /** Six messages that show what each terminal has to send; drafts differ from what was published. */
    private static CommandBuses filled(int subaddress) {
        CommandBuses b = new CommandBuses();
        for (int t = 0; t < 6; t++) {
            Setup.add(b, Setup.every(t == 0 ? 1 : 2, Setup.take(t, subaddress, 4)));
            b.draft(t, subaddress, t % 4, 100 + t);
            b.publish(t, subaddress);
            b.draft(t, subaddress, 3 - t % 4, 200 + t);
        }
        Setup.giveAll(b, 0, 51, 52, 53, 54);
        return b;
    }

    private static CommandBuses running(int subaddress) {
        CommandBuses b = filled(subaddress);
        Setup.add(b, Setup.tellAll(subaddress, 3));
        Setup.giveAll(b, 6, 61, 62, 63);
        b.seal(Setup.NO_LIMIT);
        b.live(1, false);
        b.fault(0, 2, 7);
        Setup.run(b, 6);
        b.fault(0, 1, 12);
        b.fault(1, 2, 31);
        return b;
    }

    private static CommandBuses opened(int subaddress) {
        CommandBuses b = running(subaddress);
        b.open();
        return b;
    }

    private static CommandBuses full(int subaddress) {
        CommandBuses b = opened(subaddress);
        Setup.add(b, Setup.every(4, Setup.mode(5, 4)));
        return b;
    }

    private static CommandBuses fullAndSealed(int subaddress) {
        CommandBuses b = full(subaddress);
        b.seal(Setup.NO_LIMIT);
        b.run();
        return b;
    }

    // ---- the comparison

    /** What both objects do before they are looked at. */
    private interface GoingOn {
        void by(CommandBuses b);
    }

    private static void eachIn(String name, State state, List<Refused> calls) {
        for (int s = 1; s <= 3; s++) {
            for (Refused refused : calls) {
                due.about(name + ", " + refused.name() + ", looked at once");
                same(state.made(s), state.made(s), refused, b -> { });
                due.about(name + ", " + refused.name() + ", looked at when frames were run");
                same(state.made(s), state.made(s), refused, RefusedTest::runFrames);
                due.about(name + ", " + refused.name() + ", looked at when drafts were sent");
                same(state.made(s), state.made(s), refused, RefusedTest::sendDrafts);
            }
        }
    }

    private static void same(CommandBuses a, CommandBuses b, Refused refused, GoingOn goingOn) {
        due.is("the call", refused.call().on(b), refused.answer());
        goingOn.by(a);
        goingOn.by(b);
        int[] want = look(a);
        int[] got = look(b);
        for (int i = 0; i < want.length; i++) {
            due.is("answer " + i + " of the look", got[i], want[i]);
        }
    }

    /** No call here is refused: what a refused call breaks would be broken in both objects alike. */
    private static void runFrames(CommandBuses b) {
        if (b.load(0) < 0) {
            b.seal(Setup.NO_LIMIT);
        }
        Setup.run(b, 6);
    }

    private static void sendDrafts(CommandBuses b) {
        for (int t = 0; t < 6; t++) {
            for (int s = 1; s <= 3; s++) {
                b.publish(t, s);
            }
        }
        runFrames(b);
    }

    private static int[] look(CommandBuses b) {
        List<Integer> seen = new ArrayList<>(List.of(b.bus(), b.words()));
        for (int t = 0; t < 6; t++) {
            for (int what = 0; what <= 6; what++) {
                seen.add(b.terminal(t, what));
            }
            for (int s = 1; s <= 3; s++) {
                for (int k = 0; k < 4; k++) {
                    seen.add(b.received(t, s, k));
                }
            }
        }
        for (int i = 0; i < 8; i++) {
            seen.add(b.outcome(i));
            for (int k = 0; k < 4; k++) {
                seen.add(b.taken(i, k));
            }
        }
        for (int f = 0; f < 4; f++) {
            seen.add(b.load(f));
        }
        for (int i = 0; i < 60; i++) {
            seen.add(b.heard(i));
        }
        return seen.stream().mapToInt(Integer::intValue).toArray();
    }
}
