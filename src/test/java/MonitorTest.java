/** Promises 19 and 20: words and heard. */
public final class MonitorTest {
    private static final Due due = new Due();

    public static void main(String[] args) {
        eachMark();
        lostWordsAreNotHeard();
        theLatestSixty();
        exactlySixty();
        wrongIndexes();
        statusesWithMarks();
        due.end();
    }

    private static void eachMark() {
        CommandBuses b = new CommandBuses();
        b.message(0, 3, 0, 2, 1, 1);
        b.give(0, 0, 65535);
        b.seal(1000);
        b.run();
        due.is("words", b.words(), 3);
        due.is("command", b.heard(2), 3 * 2048 + 65);
        due.is("data", b.heard(1), 65536 + 65535);
        due.is("status", b.heard(0), 3 * 2048);
        b.fault(0, 1, 1);
        b.run();
        due.is("words", b.words(), 3 + 2 + 3);
        due.is("spoilt data", b.heard(3), 131072 + 65536 + 65535);
        b.fault(0, 1, 2);
        b.run();
        due.is("spoilt status", b.heard(3), 131072 + 3 * 2048);
        b.fault(0, 2, 0);
        b.fault(1, 1, 0);
        b.run();
        due.is("words", b.words(), 8 + 6 + 2);
        due.is("spoilt command on bus 1", b.heard(1), 262144 + 131072 + 3 * 2048 + 65);
        due.is("data on bus 1", b.heard(0), 262144 + 65536 + 65535);
        b.run();
        due.is("words of both buses", b.words(), 8 + 6 + 2 + 3);
        due.is("status on bus 1", b.heard(0), 262144 + 3 * 2048);
    }

    private static void lostWordsAreNotHeard() {
        CommandBuses b = new CommandBuses();
        b.message(3, 0, 0, 1, 3, 1);
        for (int k = 0; k < 3; k++) {
            b.give(0, k, 10 + k);
        }
        b.seal(1000);
        b.fault(0, 0, 2);
        b.run();
        due.is("words", b.words(), 3);
        due.is("after it", b.heard(0), 65536 + 12);
        due.is("before it", b.heard(1), 65536 + 10);
        due.is("command", b.heard(2), 31 * 2048 + 35);
        due.is("none such", b.heard(3), -1);
    }

    /** Word number i of all, in runs of 5, is a command or a data word with the number of its run. */
    private static void theLatestSixty() {
        CommandBuses b = new CommandBuses();
        b.message(3, 0, 0, 1, 4, 1);
        b.seal(1000);
        for (int run = 0; run < 31; run++) {
            for (int k = 0; k < 4; k++) {
                b.give(0, k, run * 4 + k);
            }
            b.run();
            int count = 5 * (run + 1);
            due.is("words", b.words(), count);
            due.is("the latest", b.heard(0), wordAt(count - 1));
            due.is("the oldest", b.heard(59), count >= 60 ? wordAt(count - 60) : -1);
            due.is("no sixty-first", b.heard(60), -1);
        }
        for (int i = 0; i < 60; i++) {
            due.is("heard(" + i + ")", b.heard(i), wordAt(154 - i));
        }
    }

    private static int wordAt(int number) {
        return number % 5 == 0 ? 31 * 2048 + 36 : 65536 + number / 5 * 4 + number % 5 - 1;
    }

    private static void exactlySixty() {
        CommandBuses b = new CommandBuses();
        b.message(4, 0, 0, 0, 1, 1);
        b.seal(1000);
        for (int count = 2; count <= 66; count += 2) {
            b.run();
            int kept = Math.min(count, 60);
            due.is("the oldest of " + count, b.heard(kept - 1), 1025);
            due.is("one more than " + count, b.heard(kept), -1);
        }
    }

    private static void wrongIndexes() {
        CommandBuses b = new CommandBuses();
        int[] wrong = {-1, 60, 61, 120, Integer.MIN_VALUE, Integer.MAX_VALUE};
        for (int i : wrong) {
            due.is("heard(" + i + ") of none", b.heard(i), -1);
        }
        b.message(3, 0, 0, 1, 4, 1);
        b.seal(1000);
        for (int i = 0; i < 30; i++) {
            b.run();
        }
        for (int i : wrong) {
            due.is("heard(" + i + ") of many", b.heard(i), -1);
        }
    }

    private static void statusesWithMarks() {
        CommandBuses b = new CommandBuses();
        b.message(3, 0, 0, 1, 1, 1);
        b.message(4, 2, 0, 0, 2, 1);
        b.seal(1000);
        b.run();
        due.is("ALL", b.heard(0), 4096 + 16);
        b.fault(0, 1, 1);
        due.is("a status with a mark is good", b.run(), 2);
        due.is("outcome", b.outcome(1), 1);
        due.is("ERROR", b.heard(0), 4096 + 1024);
    }
}
