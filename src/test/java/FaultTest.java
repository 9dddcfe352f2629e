/** Promise 15: fault. Each message here is a TELL ALL, so that every word is the controller's. */
public final class FaultTest {
    private static final Due due = new Due();

    public static void main(String[] args) {
        wrongFaults();
        eachWord();
        longDelay();
        lostWordsCount();
        hitsOnce();
        cutUntilArmedAgain();
        inPlaceOfTheOther();
        busesAreApart();
        wordsThatAreNotSentDoNotCount();
        due.end();
    }

    private static CommandBuses toldAll(int n) {
        CommandBuses b = new CommandBuses();
        due.is("message", b.message(3, 0, 0, 1, n, 1), 0);
        for (int k = 0; k < 4; k++) {
            b.give(0, k, k + 1);
        }
        due.is("seal", b.seal(1000), 60 + 60 * n);
        return b;
    }

    private static void wrongFaults() {
        CommandBuses b = toldAll(1);
        int[] noBuses = {-1, 2, Integer.MIN_VALUE, Integer.MAX_VALUE};
        for (int bus : noBuses) {
            due.no("fault(" + bus + ", 0, 0)", b.fault(bus, 0, 0));
        }
        int[] noKinds = {-1, 3, Integer.MIN_VALUE, Integer.MAX_VALUE};
        for (int kind : noKinds) {
            due.no("fault(0, " + kind + ", 0)", b.fault(0, kind, 0));
            due.no("fault(1, " + kind + ", 0)", b.fault(1, kind, 0));
        }
        int[] noDelays = {-1, 1001, Integer.MIN_VALUE, Integer.MAX_VALUE};
        for (int k : noDelays) {
            due.no("fault(0, 0, " + k + ")", b.fault(0, 0, k));
        }
        b.run();
        due.is("nothing was armed", b.words(), 2);
        due.yes("fault(0, 2, 0)", b.fault(0, 2, 0));
        due.no("fault(0, 0, 1001)", b.fault(0, 0, 1001));
        b.run();
        due.is("a wrong fault leaves the cut", b.words(), 2);
        due.yes("fault(1, 0, 1000)", b.fault(1, 0, 1000));
        due.yes("fault(0, 1, 1000)", b.fault(0, 1, 1000));
        b.run();
        due.is("a good fault ends the cut", b.words(), 4);
    }

    private static void eachWord() {
        int[] words = {31 * 2048 + 32 + 4, 65537, 65538, 65539, 65540};
        for (int kind = 0; kind <= 2; kind++) {
            for (int k = 0; k <= 5; k++) {
                CommandBuses b = toldAll(4);
                due.yes("fault", b.fault(0, kind, k));
                due.is("run", b.run(), 1);
                int heard = 0;
                for (int i = 4; i >= 0; i--) {
                    boolean lost = kind == 0 && i == k || kind == 2 && i >= k;
                    if (!lost) {
                        int want = words[i] + (kind == 1 && i == k ? 131072 : 0);
                        due.is("heard, fault of kind " + kind, b.heard(heard), want);
                        heard++;
                    }
                }
                due.is("words", b.words(), heard);
                due.is("no more", b.heard(heard), -1);
                boolean commandGood = k != 0;
                boolean allGood = k == 5;
                due.is("received", b.received(3, 1, 3), allGood ? 4 : -1);
                int mark = allGood ? 16 : commandGood ? 1024 : 0;
                due.is("status", b.terminal(3, 0), 6144 + mark);
            }
        }
    }

    private static void longDelay() {
        CommandBuses b = toldAll(4);
        b.fault(0, 1, 1000);
        for (int i = 0; i < 200; i++) {
            b.run();
        }
        due.is("the thousandth word is good", b.heard(0), 65540);
        b.run();
        due.is("words", b.words(), 1005);
        due.is("the next one is spoilt", b.heard(4), 131072 + 31 * 2048 + 36);
        due.is("and no other", b.heard(3), 65537);
    }

    private static void lostWordsCount() {
        CommandBuses b = toldAll(2);
        b.fault(0, 2, 0);
        b.run();
        due.is("cut", b.words(), 0);
        b.fault(0, 0, 4);
        b.run();
        due.is("counted since it was armed", b.words(), 3);
        b.run();
        due.is("the fifth is lost", b.words(), 5);
        due.is("the sixth", b.heard(0), 65538);
        due.is("the fourth", b.heard(1), 31 * 2048 + 34);
    }

    private static void hitsOnce() {
        for (int kind = 0; kind <= 1; kind++) {
            CommandBuses b = toldAll(1);
            b.fault(0, kind, 1);
            for (int i = 0; i < 5; i++) {
                b.run();
            }
            due.is("words", b.words(), 10 - (kind == 0 ? 1 : 0));
            int spoilt = 0;
            for (int i = 0; i < b.words(); i++) {
                spoilt += (b.heard(i) & 131072) != 0 ? 1 : 0;
            }
            due.is("spoilt", spoilt, kind);
        }
    }

    private static void cutUntilArmedAgain() {
        CommandBuses b = toldAll(1);
        b.fault(0, 2, 3);
        b.run();
        b.run();
        due.is("words", b.words(), 3);
        b.run();
        b.run();
        due.is("still cut", b.words(), 3);
        b.fault(1, 0, 0);
        b.run();
        due.is("the other bus does not matter", b.words(), 3);
        b.fault(0, 2, 2);
        b.run();
        due.is("whole for two words", b.words(), 5);
        b.run();
        due.is("cut again", b.words(), 5);
        b.fault(0, 1, 0);
        b.run();
        due.is("whole", b.words(), 7);
    }

    private static void inPlaceOfTheOther() {
        CommandBuses b = toldAll(4);
        b.fault(0, 0, 1);
        b.fault(0, 1, 3);
        b.run();
        due.is("nothing lost", b.words(), 5);
        due.is("the fourth is spoilt", b.heard(1), 131072 + 65539);
        b.fault(0, 0, 7);
        b.run();
        b.fault(0, 0, 7);
        b.run();
        due.is("counted anew", b.words(), 15);
    }

    private static void busesAreApart() {
        CommandBuses b = toldAll(1);
        b.fault(1, 2, 0);
        b.run();
        due.is("bus 1 is cut", b.words(), 2);
        b.fault(0, 0, 0);
        b.run();
        due.is("one lost on bus 0", b.words(), 3);
        CommandBuses c = new CommandBuses();
        c.message(4, 0, 0, 0, 1, 1);
        c.seal(1000);
        c.fault(0, 2, 0);
        c.fault(1, 1, 2);
        due.is("on bus 1", c.run(), 1);
        due.is("bus", c.bus(), 1);
        due.is("words of bus 0 do not count for bus 1", c.words(), 2);
        due.is("run", c.run(), 1);
        due.is("outcome", c.outcome(0), 2);
        due.is("the third is spoilt", c.heard(2), 262144 + 131072 + 1025);
    }

    private static void wordsThatAreNotSentDoNotCount() {
        CommandBuses b = new CommandBuses();
        b.message(4, 3, 0, 0, 4, 4);
        b.message(1, 3, 0, 1, 1, 4);
        b.seal(10000);
        due.is("shut on bus 1", b.run(), 1);
        b.fault(0, 2, 0);
        b.fault(1, 0, 1);
        due.is("cut, and shut", b.run(), 0);
        due.is("the one command on bus 1", b.heard(0), 262144 + 3 * 2048 + 1024 + 32 + 1);
        due.is("words", b.words(), 3);
        b.live(3, false);
        b.run();
        b.run();
        due.is("SHUT on bus 1 is the second word there, lost", b.run(), 0);
        due.is("words", b.words(), 3);
    }
}
