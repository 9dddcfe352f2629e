/** Promise 16: run, the attempts of each kind, trying again, dropping and polling. */
public final class RunTest {
    private static final Due due = new Due();

    public static void main(String[] args) {
        notSealed();
        giveWithEachWordHit();
        takeWithEachWordHit();
        passWithEachWordHit();
        tellAllWithEachWordHit();
        tellCommandWithEachWordHit();
        modesWithEachWordHit();
        shutSenders();
        shutAndReset();
        resetOpensBothBuses();
        passWithSilentTerminals();
        order();
        droppedAfterThreeBadFrames();
        aGoodFrameBetween();
        badOncePerFrame();
        passCountsForBoth();
        everyTerminalIsDroppedAndPolled();
        polledInFrameZero();
        pollOnTheOwnBusOnce();
        pollKeepsMarks();
        tellAllNeverDrops();
        due.end();
    }

    private static CommandBuses with(int kind, int x, int y, int subaddress, int n) {
        CommandBuses b = new CommandBuses();
        due.is("message", b.message(kind, x, y, subaddress, n, 1), 0);
        return b;
    }

    private static void words(CommandBuses b, int... want) {
        for (int i = 0; i < want.length; i++) {
            due.is("word " + i, b.heard(want.length - 1 - i), want[i]);
        }
        due.is("words", b.words(), want.length);
    }

    private static void notSealed() {
        CommandBuses b = with(0, 0, 0, 1, 1);
        due.is("run", b.run(), -1);
        due.is("outcome", b.outcome(0), 0);
        due.is("words", b.words(), 0);
        b.seal(1000);
        due.is("run", b.run(), 1);
        b.open();
        due.is("run", b.run(), -1);
        due.is("words", b.words(), 3);
    }

    /** One word of the first attempt lost (kind 0) or spoilt (kind 1); the second goes well. */
    private static void giveWithEachWordHit() {
        for (int kind = 0; kind <= 1; kind++) {
            for (int k = 0; k <= 4; k++) {
                CommandBuses b = with(0, 2, 0, 3, 2);
                b.give(0, 0, 7);
                b.give(0, 1, 8);
                b.seal(1000);
                b.fault(0, kind, k);
                due.is("run", b.run(), 1);
                due.is("outcome", b.outcome(0), k == 4 ? 1 : 2);
                int firstAttempt = k <= 2 ? 3 : 4;
                int lost = kind == 0 && k < 4 ? 1 : 0;
                due.is("words", b.words(), k == 4 ? 4 : firstAttempt - lost + 4);
                due.is("status", b.terminal(2, 0), 4096);
                due.is("received", b.received(2, 3, 1), 8);
            }
        }
        CommandBuses b = with(0, 2, 0, 3, 2);
        b.give(0, 0, 7);
        b.seal(1000);
        b.run();
        b.give(0, 0, 9);
        b.fault(0, 1, 2);
        b.fault(1, 2, 0);
        b.live(2, true);
        due.is("run", b.run(), 1);
        due.is("received again", b.received(2, 3, 0), 9);
    }

    private static void takeWithEachWordHit() {
        int[] full = {4 * 2048 + 1024 + 64 + 3, 8192, 65536 + 21, 65536 + 22, 65536 + 23};
        for (int kind = 0; kind <= 1; kind++) {
            for (int k = 0; k <= 5; k++) {
                CommandBuses b = with(1, 4, 0, 2, 3);
                for (int i = 0; i < 4; i++) {
                    b.draft(4, 2, i, 21 + i);
                    b.give(0, i, 90 + i);
                }
                b.publish(4, 2);
                b.seal(1000);
                b.fault(0, 2, 0);
                b.fault(1, kind, k);
                due.is("run", b.run(), k == 5 ? 1 : 0);
                due.is("outcome", b.outcome(0), k == 5 ? 3 : 4);
                int sent = k == 0 ? 1 : 5;
                due.is("words", b.words(), sent - (kind == 0 && k < 5 ? 1 : 0));
                due.is("last word", b.heard(0), k == 0 ? kind == 0 ? -1 : full[0] + 131072 + 262144
                    : k == 4 ? kind == 0 ? full[3] + 262144 : full[4] + 131072 + 262144
                    : full[4] + 262144);
                for (int i = 0; i < 4; i++) {
                    due.is("taken", b.taken(0, i), k == 5 && i < 3 ? 21 + i : 90 + i);
                }
            }
        }
    }

    private static void passWithEachWordHit() {
        int n = 2;
        for (int kind = 0; kind <= 1; kind++) {
            for (int k = 0; k <= 6; k++) {
                CommandBuses b = with(2, 1, 5, 2, n);
                b.draft(1, 2, 0, 31);
                b.draft(1, 2, 1, 32);
                b.draft(1, 2, 2, 33);
                b.publish(1, 2);
                b.seal(1000);
                b.fault(0, 2, 0);
                b.fault(1, kind, k);
                due.is("run", b.run(), k == 6 ? 1 : 0);
                boolean hearsY = k != 0;
                boolean hearsX = k != 1;
                boolean dataGood = hearsX && k != 3 && k != 4;
                int sent = 2 + (hearsX ? 1 + n : 0) + (hearsY && dataGood ? 1 : 0);
                due.is("words with " + k + " hit", b.words(), sent - (kind == 0 && k < 6 ? 1 : 0));
                due.is("last of y", b.terminal(5, 1), hearsY ? 5 * 2048 + 64 + 2 : 0);
                due.is("last of x", b.terminal(1, 1), hearsX ? 2048 + 1024 + 64 + 2 : 0);
                due.is("status of y", b.terminal(5, 0), 10240 + (hearsY && !dataGood ? 1024 : 0));
                due.is("status of x", b.terminal(1, 0), 2048);
                due.is("received 0", b.received(5, 2, 0), hearsY && dataGood ? 31 : -1);
                due.is("received 1", b.received(5, 2, 1), hearsY && dataGood ? 32 : -1);
                due.is("received 2", b.received(5, 2, 2), hearsY && dataGood ? 0 : -1);
                due.is("values of the message", b.taken(0, 0), 0);
            }
        }
        CommandBuses b = with(2, 1, 5, 2, 1);
        b.draft(1, 2, 0, 31);
        b.publish(1, 2);
        b.seal(1000);
        b.run();
        words(b, 5 * 2048 + 65, 2048 + 1024 + 65, 2048, 65536 + 31, 5 * 2048);
    }

    private static void tellAllWithEachWordHit() {
        for (int kind = 0; kind <= 2; kind++) {
            for (int k = 0; k <= 2; k++) {
                CommandBuses b = with(3, 9, 9, 1, 2);
                b.give(0, 0, 5);
                b.give(0, 1, 6);
                b.seal(1000);
                b.run();
                b.give(0, 0, 15);
                b.fault(0, kind, k);
                due.is("run", b.run(), 1);
                due.is("outcome", b.outcome(0), 1);
                for (int t = 0; t < 6; t++) {
                    due.is("received before", b.received(t, 1, 0), 5);
                    due.is("status", b.terminal(t, 0), t * 2048 + (k == 0 ? 16 : 1024));
                }
            }
        }
    }

    private static void tellCommandWithEachWordHit() {
        for (int kind = 0; kind <= 1; kind++) {
            for (int k = 0; k <= 3; k++) {
                CommandBuses b = with(4, 3, 0, 0, 1);
                b.message(4, 3, 0, 0, 18, 1);
                b.give(1, 1, 98);
                b.seal(1000);
                b.fault(0, kind, 2 + k);
                due.is("run", b.run(), 2);
                due.is("outcome", b.outcome(1), k == 3 ? 1 : 2);
                due.is("told", b.taken(1, 0), 3 * 2048 + 1025);
                due.is("the others stay", b.taken(1, 1), 98);
                due.is("as a data word", b.heard(0), 65536 + 3 * 2048 + 1025);
                due.is("not a last command", b.terminal(3, 1), 3 * 2048 + 1025);
            }
        }
        for (int kind = 0; kind <= 1; kind++) {
            for (int k = 0; k <= 3; k++) {
                CommandBuses b = with(4, 3, 0, 0, 18);
                b.give(0, 0, 99);
                b.give(0, 1, 98);
                b.seal(1000);
                b.fault(0, 2, 0);
                b.fault(1, kind, k);
                due.is("run", b.run(), k == 3 ? 1 : 0);
                due.is("first value", b.taken(0, 0), k == 3 ? 0 : 99);
                due.is("second value", b.taken(0, 1), 98);
                due.is("last command", b.terminal(3, 1), 0);
                due.is("words", b.words(), (k == 0 ? 1 : 3) - (kind == 0 && k < 3 ? 1 : 0));
            }
        }
    }

    private static void modesWithEachWordHit() {
        int[] codes = {1, 2, 4, 5, 8};
        for (int code : codes) {
            for (int kind = 0; kind <= 1; kind++) {
                for (int k = 0; k <= 2; k++) {
                    CommandBuses b = with(4, 3, 0, 0, code);
                    b.seal(1000);
                    b.fault(0, kind, k);
                    due.is("run", b.run(), 1);
                    due.is("outcome", b.outcome(0), k == 2 ? 1 : 2);
                    due.is("last", b.terminal(3, 1), 3 * 2048 + 1024 + code);
                    int times = code != 1 ? 0 : k == 1 ? 2 : 1;
                    due.is("synchronized each time that it hears", b.terminal(3, 2), times);
                    int first = (k == 0 ? 1 : 2) - (kind == 0 ? 1 : 0);
                    due.is("words", b.words(), k == 2 ? 2 : first + 2);
                }
            }
        }
    }

    /** Terminal 2 is shut on bus 1 while bus 0 is cut: it obeys there, but says nothing. */
    private static void shutSenders() {
        CommandBuses b = new CommandBuses();
        b.message(4, 2, 0, 0, 4, 4);
        b.message(0, 2, 0, 1, 1, 4);
        b.message(4, 2, 0, 0, 1, 4);
        b.message(1, 2, 0, 1, 1, 4);
        b.give(1, 0, 77);
        b.seal(10000);
        due.is("shut", b.run(), 1);
        due.is("shut on bus 1", b.terminal(2, 4), 1);
        b.fault(0, 2, 0);
        due.is("give", b.run(), 0);
        due.is("received without an answer", b.received(2, 1, 0), 77);
        due.is("words", b.words(), 2 + 2);
        due.is("synchronize", b.run(), 0);
        due.is("synchronized without an answer", b.terminal(2, 2), 1);
        due.is("words", b.words(), 2 + 2 + 1);
        due.is("take", b.run(), 0);
        due.is("words", b.words(), 2 + 2 + 1 + 1);
        due.is("bus", b.bus(), 0);
        due.is("dropped", b.terminal(2, 6), 1);
    }

    private static void shutAndReset() {
        CommandBuses b = new CommandBuses();
        b.message(4, 2, 0, 0, 4, 4);
        b.message(4, 2, 0, 0, 5, 4);
        b.message(4, 2, 0, 0, 8, 4);
        b.seal(10000);
        b.run();
        due.is("shut on 1", b.terminal(2, 4), 1);
        b.run();
        due.is("unshut on 1", b.terminal(2, 4), 0);
        b.open();
        b.seal(10000);
        b.run();
        due.is("shut on 1", b.terminal(2, 4), 1);
        b.fault(0, 2, 0);
        due.is("UNSHUT on bus 1 does not open bus 1", b.run(), 0);
        due.is("shut on 1", b.terminal(2, 4), 1);
        due.is("RESET on the shut bus is answered", b.run(), 1);
        due.is("outcome", b.outcome(2), 3);
        due.is("shut on 1 no more", b.terminal(2, 4), 0);
        due.is("empty frame", b.run(), 0);
        due.is("SHUT on bus 1", b.run(), 1);
        due.is("shut on 0", b.terminal(2, 3), 1);
        due.is("not on 1", b.terminal(2, 4), 0);
        due.is("UNSHUT on bus 1", b.run(), 1);
        due.is("not on 0", b.terminal(2, 3), 0);
        b.open();
        b.seal(10000);
        b.run();
        due.is("shut on 0 again", b.terminal(2, 3), 1);
        b.open();
        b.seal(10000);
        b.fault(0, 0, 1000);
        b.fault(1, 2, 0);
        due.is("SHUT on bus 0, not heard there", b.run(), 0);
        due.is("shut on 1 too", b.terminal(2, 4), 1);
        due.is("shut on 0 still", b.terminal(2, 3), 1);
        b.run();
        due.is("UNSHUT on bus 0 opens bus 1", b.terminal(2, 4), 0);
        b.open();
        b.seal(10000);
        b.run();
        due.is("both shut", b.terminal(2, 3) + b.terminal(2, 4), 2);
        due.is("dropped now", b.terminal(2, 6), 1);
    }

    private static void resetOpensBothBuses() {
        CommandBuses b = new CommandBuses();
        b.message(4, 2, 0, 0, 4, 4);
        b.message(4, 2, 0, 0, 8, 4);
        b.seal(10000);
        b.fault(0, 2, 0);
        due.is("SHUT on bus 1", b.run(), 1);
        due.is("shut on 0", b.terminal(2, 3), 1);
        b.open();
        b.seal(10000);
        b.fault(0, 0, 1000);
        b.fault(1, 2, 0);
        due.is("SHUT on bus 0", b.run(), 0);
        due.is("shut on both", b.terminal(2, 3) + b.terminal(2, 4), 2);
        due.is("RESET is heard on bus 0 alone", b.run(), 1);
        due.is("outcome", b.outcome(1), 3);
        due.is("open on 0", b.terminal(2, 3), 0);
        due.is("open on 1", b.terminal(2, 4), 0);
        due.is("bus", b.bus(), 0);
    }

    private static void passWithSilentTerminals() {
        CommandBuses b = with(2, 0, 1, 1, 2);
        b.seal(1000);
        b.live(0, false);
        due.is("x is not live", b.run(), 0);
        due.is("words", b.words(), 6);
        due.is("y waits in vain", b.terminal(1, 0), 2048 + 1024);
        due.is("x has nothing", b.terminal(0, 1), 0);
        b.live(0, true);
        b.live(1, false);
        due.is("y is not live", b.run(), 0);
        due.is("words", b.words(), 6 + 15);
        due.is("x obeys", b.terminal(0, 1), 1024 + 32 + 2);
        due.is("y keeps its mark", b.terminal(1, 0), 2048 + 1024);
        b.live(1, true);
        due.is("both live", b.run(), 1);
        due.is("status of y", b.terminal(1, 0), 2048);
        due.is("received", b.received(1, 1, 0), 0);
        CommandBuses c = new CommandBuses();
        c.message(4, 0, 0, 0, 4, 4);
        c.message(2, 0, 1, 1, 1, 4);
        c.message(2, 1, 0, 1, 1, 4);
        c.seal(10000);
        c.run();
        c.fault(0, 2, 0);
        due.is("x is shut on bus 1", c.run(), 0);
        due.is("words", c.words(), 2 + 2);
        due.is("y misses its data", c.terminal(1, 0), 2048 + 1024);
        due.is("y is shut on bus 1", c.run(), 0);
        due.is("words", c.words(), 2 + 2 + 4);
        due.is("y receives", c.received(0, 1, 0), 0);
    }

    /** Messages go in the order of their numbers; polls come before them. */
    private static void order() {
        CommandBuses b = new CommandBuses();
        b.message(4, 5, 0, 0, 2, 1);
        b.message(4, 3, 0, 0, 2, 2);
        b.message(4, 4, 0, 0, 2, 1);
        b.message(4, 0, 0, 0, 2, 4);
        b.seal(10000);
        due.is("frame 0", b.run(), 3);
        words(b, 5 * 2048 + 1026, 5 * 2048, 3 * 2048 + 1026, 3 * 2048, 4 * 2048 + 1026, 4 * 2048);
        due.is("frame 1", b.run(), 3);
        due.is("last", b.heard(1), 1026);
        due.is("frame 2", b.run(), 3);
        due.is("frame 3", b.run(), 2);
        due.is("frame 0 again", b.run(), 3);
    }

    private static void droppedAfterThreeBadFrames() {
        CommandBuses b = new CommandBuses();
        b.message(0, 1, 0, 1, 1, 1);
        b.message(4, 2, 0, 0, 1, 1);
        b.seal(10000);
        b.live(1, false);
        for (int i = 1; i <= 3; i++) {
            due.is("not dropped yet", b.terminal(1, 6), 0);
            due.is("run", b.run(), 1);
            due.is("bad frames", b.terminal(1, 5), i);
        }
        due.is("dropped", b.terminal(1, 6), 1);
        due.is("the other is not", b.terminal(2, 6), 0);
        due.is("the other has no bad frames", b.terminal(2, 5), 0);
        int before = b.words();
        b.live(1, true);
        due.is("run in frame 3", b.run(), 1);
        due.is("nothing for the dropped one", b.words(), before + 2);
        due.is("outcome stays", b.outcome(0), 4);
        due.is("bad frames stay", b.terminal(1, 5), 3);
        due.is("dropped still", b.terminal(1, 6), 1);
        due.is("run in frame 0", b.run(), 2);
        due.is("a poll, GIVE and MODE", b.words(), before + 2 + 2 + 3 + 2);
        due.is("dropped no more", b.terminal(1, 6), 0);
        due.is("bad frames", b.terminal(1, 5), 0);
    }

    private static void aGoodFrameBetween() {
        CommandBuses b = new CommandBuses();
        b.message(0, 1, 0, 1, 1, 1);
        b.seal(10000);
        boolean[] live = {false, false, true, false, false, true, false, false, false};
        int[] bad = {1, 2, 0, 1, 2, 0, 1, 2, 3};
        for (int i = 0; i < live.length; i++) {
            b.live(1, live[i]);
            b.run();
            due.is("bad frames after " + i, b.terminal(1, 5), bad[i]);
            due.is("dropped after " + i, b.terminal(1, 6), bad[i] == 3 ? 1 : 0);
        }
    }

    /** A frame without a message of the terminal leaves its count as it is. */
    private static void badOncePerFrame() {
        CommandBuses b = new CommandBuses();
        b.message(0, 1, 0, 1, 1, 2);
        b.message(0, 1, 0, 2, 1, 2);
        b.message(0, 1, 0, 3, 1, 2);
        b.message(4, 0, 0, 0, 1, 2);
        due.is("seal", b.seal(10000), 420);
        b.live(1, false);
        due.is("frame 0 has two", b.run(), 0);
        due.is("bad frames", b.terminal(1, 5), 1);
        due.is("frame 1 has one and another", b.run(), 1);
        due.is("bad frames", b.terminal(1, 5), 2);
        CommandBuses c = new CommandBuses();
        c.message(0, 1, 0, 1, 1, 4);
        c.message(4, 0, 0, 0, 1, 1);
        c.seal(10000);
        c.live(1, false);
        c.run();
        for (int i = 0; i < 3; i++) {
            due.is("frames without it", c.run(), 1);
            due.is("bad frames", c.terminal(1, 5), 1);
        }
        c.run();
        due.is("bad frames", c.terminal(1, 5), 2);
        CommandBuses d = new CommandBuses();
        d.message(4, 1, 0, 0, 1, 1);
        d.message(2, 1, 2, 1, 1, 1);
        d.message(4, 1, 0, 0, 1, 1);
        d.seal(10000);
        d.live(2, false);
        due.is("one of three fails", d.run(), 2);
        due.is("bad all the same", d.terminal(1, 5), 1);
        due.is("bad", d.terminal(2, 5), 1);
    }

    private static void passCountsForBoth() {
        CommandBuses b = new CommandBuses();
        b.message(2, 1, 4, 1, 1, 1);
        b.message(4, 3, 0, 0, 1, 1);
        b.seal(10000);
        b.live(4, false);
        b.run();
        b.run();
        due.is("x", b.terminal(1, 5), 2);
        due.is("y", b.terminal(4, 5), 2);
        b.run();
        due.is("x dropped", b.terminal(1, 6), 1);
        due.is("y dropped", b.terminal(4, 6), 1);
        due.is("another", b.terminal(3, 6), 0);
        b.run();
        due.is("x is back, y is not", b.run(), 1);
        due.is("x", b.terminal(1, 6), 0);
        due.is("x", b.terminal(1, 5), 0);
        due.is("y", b.terminal(4, 6), 1);
        due.is("not done for y", b.outcome(0), 4);
        due.is("x stays at 0", b.terminal(1, 5), 0);
        b.live(4, true);
        b.live(1, false);
        b.run();
        b.run();
        b.run();
        due.is("y is back", b.run(), 1);
        due.is("y", b.terminal(4, 5), 1);
        due.is("x", b.terminal(1, 5), 1);
    }

    private static void everyTerminalIsDroppedAndPolled() {
        for (int t = 0; t < 6; t++) {
            CommandBuses b = with(4, t, 0, 0, 1);
            b.seal(1000);
            b.live(t, false);
            for (int i = 0; i < 4; i++) {
                b.run();
            }
            due.is("dropped after three frames, no words in the fourth", b.words(), 9);
            due.is("dropped", b.terminal(t, 6), 1);
            due.is("run", b.run(), 0);
            due.is("the poll", b.heard(0), t * 2048 + 1026);
            b.live(t, true);
            b.open();
            b.seal(1000);
            due.is("back", b.run(), 1);
            due.is("dropped no more", b.terminal(t, 6), 0);
        }
    }

    private static void polledInFrameZero() {
        CommandBuses b = new CommandBuses();
        b.message(4, 5, 0, 0, 1, 1);
        b.message(4, 2, 0, 0, 1, 1);
        b.message(4, 0, 0, 0, 1, 1);
        b.seal(10000);
        b.live(5, false);
        b.live(2, false);
        for (int i = 0; i < 4; i++) {
            due.is("run", b.run(), 1);
        }
        int before = b.words();
        due.is("run", b.run(), 1);
        due.is("two polls and a message", b.words(), before + 2 + 2);
        due.is("first the lower one", b.heard(3), 2 * 2048 + 1026);
        due.is("then the higher one", b.heard(2), 5 * 2048 + 1026);
        due.is("then the messages", b.heard(1), 1025);
        due.is("still dropped", b.terminal(5, 6), 1);
        due.is("still dropped", b.terminal(2, 6), 1);
        due.is("count stays", b.terminal(2, 5), 3);
        b.live(2, true);
        for (int i = 1; i < 4; i++) {
            due.is("not polled in frame " + i, b.run(), 1);
            due.is("dropped", b.terminal(2, 6), 1);
        }
        due.is("run", b.run(), 2);
        due.is("back", b.terminal(2, 6), 0);
        due.is("not back", b.terminal(5, 6), 1);
        due.is("polls have no outcome", b.outcome(0), 4);
    }

    private static void pollOnTheOwnBusOnce() {
        CommandBuses b = new CommandBuses();
        b.message(4, 1, 0, 0, 1, 1);
        b.message(4, 2, 0, 0, 1, 2);
        b.seal(10000);
        b.live(1, false);
        b.run();
        b.run();
        b.run();
        b.live(1, true);
        b.run();
        b.fault(0, 0, 0);
        int before = b.words();
        due.is("the poll is lost, and not tried again", b.run(), 1);
        due.is("dropped", b.terminal(1, 6), 1);
        due.is("the other message alone", b.words(), before + 2);
        b.run();
        b.run();
        b.run();
        b.fault(0, 1, 1);
        b.run();
        due.is("its status is spoilt", b.terminal(1, 6), 1);
        due.is("but it obeyed", b.terminal(1, 1), 2048 + 1026);
        CommandBuses c = new CommandBuses();
        c.message(4, 2, 0, 0, 1, 1);
        c.message(4, 1, 0, 0, 1, 1);
        c.seal(10000);
        c.fault(0, 2, 0);
        c.live(1, false);
        for (int i = 0; i < 4; i++) {
            c.run();
        }
        c.live(1, true);
        due.is("bus", c.bus(), 1);
        due.is("polled on bus 1", c.run(), 2);
        due.is("back", c.terminal(1, 6), 0);
        due.is("the poll", c.heard(5), 262144 + 2048 + 1026);
        due.is("its answer", c.heard(4), 262144 + 2048);
    }

    private static void pollKeepsMarks() {
        CommandBuses b = new CommandBuses();
        b.message(4, 1, 0, 0, 1, 4);
        b.message(3, 0, 0, 1, 1, 4);
        b.message(4, 1, 0, 0, 8, 4);
        b.seal(10000);
        b.live(1, false);
        b.run();
        b.run();
        b.run();
        b.run();
        b.run();
        due.is("dropped", b.terminal(1, 6), 1);
        b.live(1, true);
        due.is("TELL ALL reaches the dropped one", b.run(), 1);
        due.is("ALL mark", b.terminal(1, 0), 2048 + 16);
        due.is("RESET is not done", b.run(), 0);
        due.is("nothing in frame 3", b.run(), 0);
        due.is("polled, then synchronized", b.run(), 1);
        due.is("the poll", b.heard(3), 2048 + 1026);
        due.is("its answer has the mark", b.heard(2), 2048 + 16);
        due.is("back", b.terminal(1, 6), 0);
        due.is("the mark went with the next command", b.terminal(1, 0), 2048);
    }

    private static void tellAllNeverDrops() {
        CommandBuses b = with(3, 0, 0, 1, 1);
        b.seal(1000);
        for (int t = 0; t < 6; t++) {
            b.live(t, false);
        }
        b.fault(0, 2, 0);
        for (int i = 0; i < 5; i++) {
            due.is("run", b.run(), 1);
            due.is("outcome", b.outcome(0), 1);
        }
        for (int t = 0; t < 6; t++) {
            due.is("bad frames", b.terminal(t, 5), 0);
            due.is("dropped", b.terminal(t, 6), 0);
        }
        due.is("bus", b.bus(), 0);
        CommandBuses c = new CommandBuses();
        c.message(4, 0, 0, 0, 1, 2);
        c.message(3, 0, 0, 1, 1, 2);
        c.seal(1000);
        c.live(0, false);
        c.run();
        c.run();
        due.is("TELL ALL does not make a frame good", c.terminal(0, 5), 1);
    }
}
