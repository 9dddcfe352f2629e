import java.util.ArrayList;
import java.util.List;

/** The sentences of the promises that name an edge, each in a test of its own. */
public final class PromiseEdgesTest {
    private static final Due due = new Due();
    private static final int MIN = Integer.MIN_VALUE;
    private static final int MAX = Integer.MAX_VALUE;

    /** A call with one argument left open; a boolean answer counts 1 or 0. */
    private interface Call {
        long with(int argument);
    }

    public static void main(String[] args) {
        newObject();
        encode();
        decodeRange();
        decodeSync();
        decodeHalves();
        decodeParity();
        live();
        liveKeepsAll();
        draft();
        draftReachesTheEnds();
        publish();
        publishTakesAllFour();
        received();
        nothingWasReceived();
        terminal();
        messageKind();
        messageTerminals();
        messageSubaddress();
        messageNumber();
        messageModeCode();
        messagePeriod();
        messageFull();
        messageSealed();
        give();
        giveSealedOrNot();
        taken();
        sealBudget();
        sealFull();
        sealSealed();
        sealEmptyAndFullTable();
        sealMakesFrameZeroNext();
        open();
        openKeepsBuses();
        load();
        loadNotSealed();
        fault();
        faultInPlaceOfAnother();
        runNotSealed();
        runAnswersHowMany();
        outcome();
        outcomeNeverDone();
        bus();
        words();
        heard();
        heardIsTheLatestBut();
        due.end();
    }

    private static long bit(boolean answer) {
        return answer ? 1 : 0;
    }

    /** What is within the bounds is taken; what lies beyond, near or far, on each side, is refused. */
    private static void edges(String call, int least, int greatest, Call made, Call taken, long refused) {
        for (int v = least; v <= greatest; v += v < least + 70 || v > greatest - 70 ? 1 : 100) {
            due.is(call + " with " + v, made.with(v), taken.with(v));
        }
        due.is(call + " with " + greatest, made.with(greatest), taken.with(greatest));
        int[] beyond = {least - 1, greatest + 1, least - 32, greatest + 32, least - 65536,
            greatest + 65536, MIN, MAX};
        for (int v : beyond) {
            due.is(call + " with " + v, made.with(v), refused);
        }
    }

    private static void edges(String call, int least, int greatest, Call made) {
        edges(call, least, greatest, made, v -> 1, 0);
    }

    // ---- 1

    private static void newObject() {
        due.about("1: all six terminals are live, with senders open");
        for (int t = 0; t < 6; t++) {
            CommandBuses b = Setup.sealed(Setup.mode(t, 2));
            due.is("run on bus 0", b.run(), 1);
            due.is("outcome on bus 0", b.outcome(0), 1);
            b.fault(0, 2, 0);
            due.is("run on bus 1", b.run(), 1);
            due.is("outcome on bus 1", b.outcome(0), 3);
        }
        due.about("1: no fault is armed");
        CommandBuses b = Setup.sealed(Setup.tellAll(1, 4), Setup.tellAll(1, 4), Setup.tellAll(2, 4),
            Setup.tellAll(2, 4), Setup.tellAll(3, 4), Setup.tellAll(3, 4), Setup.mode(0, 2));
        Setup.run(b, 40);
        due.is("more words on bus 0 than a fault can wait", b.words(), 40 * 32);
        b.fault(0, 2, 0);
        due.is("to bus 1", b.run(), 7);
        due.is("bus", b.bus(), 1);
        Setup.run(b, 40);
        due.is("more words on bus 1 than a fault can wait", b.words(), 40 * 32 + 2 + 40 * 32);
        due.is("none of the latest is spoilt", b.heard(0) & 131072, 0);
        due.about("1: the table has no messages and is not sealed");
        CommandBuses c = new CommandBuses();
        due.is("outcome(0)", c.outcome(0), -1);
        due.no("open()", c.open());
        due.is("the first message", c.message(4, 0, 0, 0, 2, 1), 0);
        due.about("1: the monitor has written nothing down");
        due.is("heard(0)", new CommandBuses().heard(0), -1);
    }

    // ---- 2 and 3

    private static void encode() {
        due.about("2: BAD when value is not 0 .. 65535");
        edges("encode(false, ?)", 0, 65535, v -> new CommandBuses().encode(false, v),
            v -> halves("111000", v), -1);
        edges("encode(true, ?)", 0, 65535, v -> new CommandBuses().encode(true, v),
            v -> halves("000111", v), -1);
    }

    private static long halves(String sync, int value) {
        String bits = Integer.toBinaryString(65536 + value).substring(1);
        String all = bits + (Integer.bitCount(value) % 2 == 0 ? "1" : "0");
        return word(sync, all);
    }

    private static long word(String sync, String bits) {
        return Long.parseLong(sync + bits.replace("1", "x").replace("0", "01").replace("x", "10"), 2);
    }

    private static void decodeRange() {
        due.about("3: BAD when it is not 0 .. 2^40 - 1");
        CommandBuses b = new CommandBuses();
        long end = 1L << 40;
        due.is("decode(0)", b.decode(0), -3);
        due.is("decode(2^40 - 1)", b.decode(end - 1), -3);
        long good = halves("111000", 65535);
        due.is("the greatest good word", b.decode(good), 65535);
        due.is("the least good word", b.decode(halves("000111", 0)), 65536);
        long[] beyond = {-1, end, end + 1, good + end, good - end, good + (1L << 41), good + (1L << 62),
            good + Long.MIN_VALUE, -good, Long.MIN_VALUE, Long.MAX_VALUE};
        for (long h : beyond) {
            due.is("decode(" + h + ")", b.decode(h), -1);
        }
    }

    private static void decodeSync() {
        due.about("3: SYNC when the first six are no sync");
        CommandBuses b = new CommandBuses();
        for (int s = 0; s < 64; s++) {
            String sync = Integer.toBinaryString(64 + s).substring(1);
            int want = sync.equals("111000") ? 7 : sync.equals("000111") ? 65536 + 7 : -3;
            due.is("decode with the sync " + sync, b.decode(halves(sync, 7)), want);
        }
        long evenAndSame = halves("111001", 7) & ~3L;
        due.is("SYNC, though halves are the same too", b.decode(evenAndSame), -3);
        due.is("SYNC, though the parity is even too", b.decode(word("111001", "0".repeat(17))), -3);
    }

    private static void decodeHalves() {
        due.about("3: HALVES when two halves of a bit are the same");
        CommandBuses b = new CommandBuses();
        String[] syncs = {"111000", "000111"};
        for (String sync : syncs) {
            for (int bit = 0; bit < 17; bit++) {
                long pair = 3L << (2 * bit);
                due.is("00 at bit " + bit, b.decode(halves(sync, 4660) & ~pair), -4);
                due.is("11 at bit " + bit, b.decode(halves(sync, 4660) | pair), -4);
            }
            due.is("every bit 00", b.decode(Long.parseLong(sync + "0".repeat(34), 2)), -4);
            due.is("every bit 11", b.decode(Long.parseLong(sync + "1".repeat(34), 2)), -4);
            due.is("HALVES, though the rest is even too",
                b.decode(word(sync, "11" + "0".repeat(15)) & ~3L), -4);
        }
    }

    private static void decodeParity() {
        due.about("3: PARITY when the parity is not odd");
        CommandBuses b = new CommandBuses();
        for (int ones = 0; ones <= 17; ones++) {
            String last = "0".repeat(17 - ones) + "1".repeat(ones);
            String first = "1".repeat(ones) + "0".repeat(17 - ones);
            boolean odd = ones % 2 == 1;
            due.is(ones + " ones at the end", b.decode(word("111000", last)),
                odd ? Integer.parseInt(last, 2) / 2 : -5);
            due.is(ones + " ones at the beginning", b.decode(word("000111", first)),
                odd ? 65536 + Integer.parseInt(first, 2) / 2 : -5);
        }
    }

    // ---- 4 to 8

    private static void live() {
        due.about("4: false when there is no such terminal");
        edges("live(?, true)", 0, 5, t -> bit(new CommandBuses().live(t, true)));
        edges("live(?, false)", 0, 5, t -> bit(new CommandBuses().live(t, false)));
    }

    private static void liveKeepsAll() {
        due.about("4: it keeps all that it has");
        CommandBuses b = Setup.table(Setup.every(4, Setup.mode(3, 1)), Setup.every(4, Setup.give(3, 1, 2)),
            Setup.every(4, Setup.mode(3, 4)), Setup.every(4, Setup.tellAll(2, 1)));
        Setup.giveAll(b, 1, 71, 72);
        Setup.giveAll(b, 3, 73);
        Setup.publishAll(b, 3, 3, 81, 82, 83, 84);
        b.draft(3, 3, 0, 91);
        b.seal(Setup.NO_LIMIT);
        Setup.run(b, 4);
        b.live(3, false);
        for (int i = 0; i < 2; i++) {
            due.is("status with its ALL mark", b.terminal(3, 0), 3 * 2048 + 16);
            due.is("last command", b.terminal(3, 1), 31 * 2048 + 2 * 32 + 1);
            due.is("synchronized", b.terminal(3, 2), 1);
            due.is("sender on bus 0", b.terminal(3, 3), 0);
            due.is("sender on bus 1", b.terminal(3, 4), 1);
            due.is("received", b.received(3, 1, 1), 72);
            due.is("received for all", b.received(3, 2, 0), 73);
            due.is("nothing received", b.received(3, 3, 0), -1);
            b.live(3, true);
        }
        b.open();
        Setup.add(b, Setup.take(3, 3, 4));
        b.seal(Setup.NO_LIMIT);
        b.run();
        due.is("the message to send", b.taken(4, 0), 81);
        due.is("the message to send", b.taken(4, 3), 84);
        b.publish(3, 3);
        Setup.run(b, 4);
        due.is("the draft", b.taken(4, 0), 91);
        due.about("4: it keeps its bad frames, and stays dropped");
        CommandBuses c = Setup.sealed(Setup.mode(3, 1));
        c.live(3, false);
        Setup.run(c, 2);
        c.live(3, true);
        due.is("bad frames", c.terminal(3, 5), 2);
        c.live(3, false);
        c.run();
        c.live(3, true);
        due.is("bad frames", c.terminal(3, 5), 3);
        due.is("dropped", c.terminal(3, 6), 1);
    }

    private static void draft() {
        due.about("5: false when there is no such terminal");
        edges("draft(?, 1, 0, 5)", 0, 5, t -> bit(new CommandBuses().draft(t, 1, 0, 5)));
        due.about("5: false when there is no such subaddress");
        edges("draft(0, ?, 0, 5)", 1, 3, s -> bit(new CommandBuses().draft(0, s, 0, 5)));
        edges("draft(5, ?, 3, 5)", 1, 3, s -> bit(new CommandBuses().draft(5, s, 3, 5)));
        due.about("5: false when k is not 0 .. 3");
        edges("draft(0, 1, ?, 5)", 0, 3, k -> bit(new CommandBuses().draft(0, 1, k, 5)));
        edges("draft(5, 3, ?, 5)", 0, 3, k -> bit(new CommandBuses().draft(5, 3, k, 5)));
        due.about("5: false when v is not 0 .. 65535");
        edges("draft(0, 1, 0, ?)", 0, 65535, v -> bit(new CommandBuses().draft(0, 1, 0, v)));
    }

    private static void draftReachesTheEnds() {
        due.about("5: value k of a draft becomes v");
        int[][] places = {{0, 1, 0, 0}, {0, 1, 0, 65535}, {0, 3, 3, 65535}, {5, 1, 0, 1}, {5, 3, 3, 65535},
            {5, 3, 0, 65534}};
        for (int[] p : places) {
            CommandBuses b = Setup.sealed(Setup.take(p[0], p[1], 4));
            for (int k = 0; k < 4; k++) {
                b.draft(p[0], p[1], k, 9);
            }
            due.yes("draft", b.draft(p[0], p[1], p[2], p[3]));
            b.publish(p[0], p[1]);
            b.run();
            for (int k = 0; k < 4; k++) {
                due.is("value " + k, b.taken(0, k), k == p[2] ? p[3] : 9);
            }
        }
    }

    private static void publish() {
        due.about("6: false when there is no such terminal");
        edges("publish(?, 1)", 0, 5, t -> bit(new CommandBuses().publish(t, 1)));
        edges("publish(?, 3)", 0, 5, t -> bit(new CommandBuses().publish(t, 3)));
        due.about("6: false when there is no such subaddress");
        edges("publish(0, ?)", 1, 3, s -> bit(new CommandBuses().publish(0, s)));
        edges("publish(5, ?)", 1, 3, s -> bit(new CommandBuses().publish(5, s)));
    }

    private static void publishTakesAllFour() {
        due.about("6: the draft's four values become those of the message to send, at once");
        CommandBuses b = Setup.sealed(Setup.take(0, 1, 4), Setup.take(5, 3, 4));
        Setup.publishAll(b, 0, 1, 11, 12, 13, 14);
        Setup.publishAll(b, 5, 3, 21, 22, 23, 24);
        b.run();
        for (int k = 0; k < 4; k++) {
            due.is("published", b.taken(0, k), 11 + k);
            due.is("published", b.taken(1, k), 21 + k);
        }
        b.draft(0, 1, 3, 0);
        b.run();
        due.is("not before it is published", b.taken(0, 3), 14);
        b.publish(0, 1);
        due.is("nor before it is sent", b.taken(0, 3), 14);
        b.run();
        due.is("0 is a value as any other", b.taken(0, 3), 0);
        due.is("the others of the draft stay", b.taken(0, 0), 11);
    }

    private static void received() {
        CommandBuses b = Setup.sealed(Setup.tellAll(1, 4), Setup.tellAll(2, 4), Setup.tellAll(3, 4));
        for (int i = 0; i < 3; i++) {
            Setup.giveAll(b, i, 10 * i + 10, 10 * i + 11, 10 * i + 12, 10 * i + 13);
        }
        b.run();
        due.about("7: BAD when there is no such terminal");
        edges("received(?, 1, 0)", 0, 5, t -> b.received(t, 1, 0), t -> 10, -1);
        edges("received(?, 3, 3)", 0, 5, t -> b.received(t, 3, 3), t -> 33, -1);
        due.about("7: BAD when there is no such subaddress");
        edges("received(0, ?, 0)", 1, 3, s -> b.received(0, s, 0), s -> 10 * s, -1);
        edges("received(5, ?, 3)", 1, 3, s -> b.received(5, s, 3), s -> 10 * s + 3, -1);
        due.about("7: BAD when there is no such k");
        edges("received(0, 1, ?)", 0, 3, k -> b.received(0, 1, k), k -> 10 + k, -1);
        edges("received(5, 3, ?)", 0, 3, k -> b.received(5, 3, k), k -> 30 + k, -1);
    }

    private static void nothingWasReceived() {
        due.about("7: BAD when nothing was received there");
        CommandBuses b = Setup.sealed(Setup.give(2, 2, 1));
        b.fault(0, 2, 1);
        b.fault(1, 1, 1);
        due.is("its data word does not come good", b.run(), 0);
        due.is("received", b.received(2, 2, 0), -1);
        due.is("run", b.run(), 1);
        for (int t = 0; t < 6; t++) {
            for (int s = 1; s <= 3; s++) {
                for (int k = 0; k < 4; k++) {
                    boolean there = t == 2 && s == 2;
                    due.is("received(" + t + ", " + s + ", " + k + ")", b.received(t, s, k), there ? 0 : -1);
                }
            }
        }
    }

    private static void terminal() {
        CommandBuses b = new CommandBuses();
        due.about("8: BAD when there is no such terminal");
        edges("terminal(?, 0)", 0, 5, t -> b.terminal(t, 0), t -> 2048 * t, -1);
        edges("terminal(?, 6)", 0, 5, t -> b.terminal(t, 6), t -> 0, -1);
        due.about("8: BAD when there is no such what");
        edges("terminal(0, ?)", 0, 6, what -> b.terminal(0, what), what -> 0, -1);
        edges("terminal(5, ?)", 0, 6, what -> b.terminal(5, what), what -> what == 0 ? 10240 : 0, -1);
    }

    // ---- 9 to 11

    private static long first(int kind, int x, int y, int subaddress, int n, int period) {
        return new CommandBuses().message(kind, x, y, subaddress, n, period);
    }

    private static void messageKind() {
        due.about("9: BAD when the kind is not 0 .. 4");
        edges("message(?, 0, 1, 1, 1, 1)", 0, 4, kind -> first(kind, 0, 1, 1, 1, 1), kind -> 0, -1);
    }

    private static void messageTerminals() {
        due.about("9: x is a terminal");
        int[] kinds = {0, 1, 4};
        for (int kind : kinds) {
            edges("x of kind " + kind, 0, 5, x -> first(kind, x, 0, 1, 1, 1), x -> 0, -1);
        }
        due.about("9: x and y are terminals for PASS, and x is not y");
        for (int other = 0; other <= 5; other++) {
            int t = other;
            edges("PASS to " + t, 0, 5, x -> first(2, x, t, 1, 1, 1), x -> x == t ? -1 : 0, -1);
            edges("PASS of " + t, 0, 5, y -> first(2, t, y, 1, 1, 1), y -> y == t ? -1 : 0, -1);
        }
        int[] any = {MIN, -1, 0, 5, 6, 31, MAX};
        for (int t : any) {
            due.about("9: y is looked at for PASS alone");
            due.is("GIVE with y " + t, first(0, 0, t, 1, 1, 1), 0);
            due.is("TAKE with y " + t, first(1, 5, t, 1, 1, 1), 0);
            due.is("TELL ALL with y " + t, first(3, 0, t, 1, 1, 1), 0);
            due.is("MODE with y " + t, first(4, 5, t, 1, 1, 1), 0);
            due.about("9: x is not looked at for TELL ALL");
            due.is("TELL ALL with x " + t, first(3, t, 0, 1, 1, 1), 0);
        }
    }

    private static void messageSubaddress() {
        due.about("9: subaddress 1 .. 3 for the kinds 0 to 3");
        for (int i = 0; i <= 3; i++) {
            int kind = i;
            edges("subaddress of kind " + i, 1, 3, s -> first(kind, 0, 1, s, 4, 1), s -> 0, -1);
        }
        due.about("9: the subaddress is not looked at for MODE");
        int[] any = {MIN, -1, 0, 1, 3, 4, 32, MAX};
        for (int s : any) {
            CommandBuses b = new CommandBuses();
            due.is("MODE with subaddress " + s, b.message(4, 5, 0, s, 1, 1), 0);
            b.seal(Setup.NO_LIMIT);
            b.run();
            due.is("its command", b.heard(1), 5 * 2048 + 1024 + 1);
        }
    }

    private static void messageNumber() {
        due.about("9: n 1 .. 4 for the kinds 0 to 3");
        for (int i = 0; i <= 3; i++) {
            int kind = i;
            edges("n of kind " + i, 1, 4, n -> first(kind, 0, 1, 3, n, 1), n -> 0, -1);
        }
    }

    private static void messageModeCode() {
        due.about("9: for MODE n one of the codes");
        List<Integer> codes = List.of(1, 2, 4, 5, 8, 18);
        for (int n = -40; n <= 70; n++) {
            due.is("MODE " + n, first(4, 0, 0, 0, n, 1), codes.contains(n) ? 0 : -1);
        }
        due.is("MODE MIN", first(4, 0, 0, 0, MIN, 1), -1);
        due.is("MODE MAX", first(4, 0, 0, 0, MAX, 1), -1);
    }

    private static void messagePeriod() {
        due.about("9: BAD when the period is not 1, 2 or 4");
        for (int kind = 0; kind <= 4; kind++) {
            for (int period = -9; period <= 17; period++) {
                boolean good = period == 1 || period == 2 || period == 4;
                due.is("period " + period, first(kind, 0, 1, 1, 1, period), good ? 0 : -1);
            }
            due.is("period MIN", first(kind, 0, 1, 1, 1, MIN), -1);
            due.is("period MAX", first(kind, 0, 1, 1, 1, MAX), -1);
        }
    }

    private static void messageFull() {
        due.about("9: FULL when there are 8");
        for (int kind = 0; kind <= 4; kind++) {
            CommandBuses b = new CommandBuses();
            for (int i = 0; i < 8; i++) {
                due.is("the number of message " + i, b.message(kind, 0, 1, 1, 1, 4), i);
            }
            due.is("the ninth", b.message(kind, 0, 1, 1, 1, 4), -2);
            due.is("and again", b.message(kind, 0, 1, 1, 1, 4), -2);
            due.is("a wrong ninth is BAD", b.message(kind, 0, 1, 1, 1, 3), -1);
            due.is("there is no ninth", b.outcome(8), -1);
            due.is("there is an eighth", b.outcome(7), 0);
        }
        CommandBuses c = new CommandBuses();
        for (int i = 0; i < 20; i++) {
            due.is("a BAD one", c.message(0, 6, 0, 1, 1, 1), -1);
        }
        due.is("BAD ones take no room", c.message(0, 5, 0, 1, 1, 1), 0);
    }

    private static void messageSealed() {
        due.about("9: SEALED when the table is sealed");
        for (int count = 0; count <= 8; count += 4) {
            CommandBuses b = Setup.tableOf(count);
            b.seal(Setup.NO_LIMIT);
            due.is("a good one", b.message(0, 0, 0, 1, 1, 1), -6);
            due.is("a wrong one", b.message(5, 9, 9, 9, 9, 9), -6);
            b.open();
            due.is("opened", b.message(0, 0, 0, 1, 1, 1), count == 8 ? -2 : count);
        }
    }

    private static void give() {
        due.about("10: false when there is no such message");
        due.no("give(0, 0, 1) of an empty table", new CommandBuses().give(0, 0, 1));
        for (int count = 1; count <= 8; count++) {
            CommandBuses b = Setup.tableOf(count);
            edges("give(?, 0, 1) of " + count, 0, count - 1, i -> bit(b.give(i, 0, 1)));
        }
        CommandBuses b = Setup.tableOf(8);
        due.about("10: false when k is not 0 .. 3");
        edges("give(0, ?, 1)", 0, 3, k -> bit(b.give(0, k, 1)));
        edges("give(7, ?, 1)", 0, 3, k -> bit(b.give(7, k, 1)));
        due.about("10: false when v is not 0 .. 65535");
        edges("give(7, 3, ?)", 0, 65535, v -> bit(Setup.tableOf(8).give(7, 3, v)));
        due.about("10: value k becomes v");
        int[] values = {65535, 0, 1, 65534};
        for (int v : values) {
            b.give(7, 3, v);
            due.is("taken(7, 3)", b.taken(7, 3), v);
        }
    }

    private static void giveSealedOrNot() {
        due.about("10: sealed or not");
        CommandBuses b = Setup.table(Setup.give(5, 3, 4));
        due.yes("not sealed", b.give(0, 0, 5));
        b.seal(Setup.NO_LIMIT);
        due.yes("sealed", b.give(0, 3, 6));
        due.no("sealed, but wrong", b.give(1, 3, 6));
        b.run();
        due.is("both are given", b.received(5, 3, 0), 5);
        due.is("both are given", b.received(5, 3, 3), 6);
        b.open();
        due.yes("opened", b.give(0, 0, 7));
        due.is("taken", b.taken(0, 0), 7);
    }

    private static void taken() {
        due.about("11: BAD when there is no such message");
        due.is("taken(0, 0) of an empty table", new CommandBuses().taken(0, 0), -1);
        for (int count = 1; count <= 8; count++) {
            CommandBuses b = Setup.tableOf(count);
            edges("taken(?, 3) of " + count, 0, count - 1, i -> b.taken(i, 3), i -> 0, -1);
        }
        due.about("11: BAD when there is no such k");
        CommandBuses b = Setup.tableOf(8);
        Setup.giveAll(b, 0, 40, 41, 42, 43);
        Setup.giveAll(b, 7, 50, 51, 52, 53);
        edges("taken(0, ?)", 0, 3, k -> b.taken(0, k), k -> 40 + k, -1);
        edges("taken(7, ?)", 0, 3, k -> b.taken(7, k), k -> 50 + k, -1);
    }

    // ---- 12 to 14

    private static void sealBudget() {
        due.about("12: BAD when budget is less than 0");
        int[] below = {-1, -2, MIN};
        for (int budget : below) {
            due.is("seal(" + budget + ") of an empty table", new CommandBuses().seal(budget), -1);
            due.is("seal(" + budget + ")", Setup.tableOf(1).seal(budget), -1);
        }
        due.is("seal(0) of an empty table", new CommandBuses().seal(0), 0);
        due.is("seal(0)", Setup.tableOf(1).seal(0), -2);
        due.is("seal(MAX)", Setup.tableOf(8).seal(MAX), 8 * 150);
    }

    private static void sealFull() {
        due.about("12: FULL when a load would be above it (it is not sealed then)");
        for (int count = 1; count <= 8; count++) {
            CommandBuses b = Setup.tableOf(count);
            due.is("one below the load", b.seal(150 * count - 1), -2);
            due.is("not sealed", b.load(0), -1);
            due.is("not sealed", b.run(), -1);
            due.no("not sealed", b.open());
            due.is("the load itself", b.seal(150 * count), 150 * count);
        }
        CommandBuses last = Setup.table(Setup.every(4, Setup.mode(0, 2)), Setup.every(4, Setup.mode(0, 2)),
            Setup.every(4, Setup.mode(0, 2)), Setup.every(4, Setup.give(0, 1, 4)));
        due.is("above it in frame 3 alone", last.seal(389), -2);
        due.is("the greatest load is in frame 3", last.seal(390), 390);
    }

    private static void sealSealed() {
        due.about("12: SEALED when it is sealed already");
        for (int count = 0; count <= 8; count += 8) {
            CommandBuses b = Setup.tableOf(count);
            b.seal(150 * count);
            int[] budgets = {MIN, -1, 0, 150 * count, MAX};
            for (int budget : budgets) {
                due.is("seal(" + budget + ")", b.seal(budget), -6);
            }
            b.open();
            due.is("opened", b.seal(150 * count), 150 * count);
        }
    }

    private static void sealEmptyAndFullTable() {
        due.about("12: answers the greatest load");
        due.is("of no messages", new CommandBuses().seal(MAX), 0);
        CommandBuses most = new CommandBuses();
        for (int i = 0; i < 8; i++) {
            most.message(2, 0, 1, 1, 4, 1);
        }
        due.is("of the greatest table, one below", most.seal(8 * 540 - 1), -2);
        due.is("of the greatest table", most.seal(8 * 540), 8 * 540);
        CommandBuses spread = new CommandBuses();
        for (int i = 0; i < 8; i++) {
            spread.message(2, 0, 1, 1, 4, 4);
        }
        due.is("of a table that is spread", spread.seal(2 * 540), 2 * 540);
    }

    private static void sealMakesFrameZeroNext() {
        due.about("12: frame 0 is the next one");
        for (int before = 0; before <= 9; before++) {
            CommandBuses b = Setup.sealed(Setup.every(4, Setup.mode(0, 1)));
            Setup.run(b, before);
            due.is("a refused seal", b.seal(MAX), -6);
            due.is("frame " + before % 4 + " is still the next", b.run(), before % 4 == 0 ? 1 : 0);
            b.open();
            b.seal(MAX);
            due.is("frame 0", b.run(), 1);
            due.is("frame 1", b.run(), 0);
        }
    }

    private static void open() {
        due.about("13: false when it was not sealed");
        for (int count = 0; count <= 8; count += 4) {
            CommandBuses b = Setup.tableOf(count);
            due.no("at first", b.open());
            b.seal(-1);
            due.no("after a BAD seal", b.open());
            if (count > 0) {
                b.seal(0);
                due.no("after a FULL seal", b.open());
            }
            b.seal(MAX);
            due.yes("sealed", b.open());
            due.no("a second time", b.open());
        }
    }

    private static void openKeepsBuses() {
        due.about("13: messages, terminals and buses stay as they are");
        CommandBuses b = Setup.sealed(Setup.give(1, 1, 2), Setup.mode(2, 4));
        Setup.giveAll(b, 0, 8, 9);
        b.fault(0, 2, 0);
        b.run();
        b.fault(1, 0, 9);
        due.is("six words on bus 1", b.run(), 2);
        int heard = b.words();
        due.yes("open", b.open());
        due.is("the controller's bus", b.bus(), 1);
        due.is("words", b.words(), heard);
        due.is("outcome", b.outcome(1), 1);
        due.is("value", b.taken(0, 1), 9);
        due.is("received", b.received(1, 1, 1), 9);
        due.is("last command", b.terminal(2, 1), 2 * 2048 + 1024 + 4);
        due.is("shut", b.terminal(2, 3), 1);
        b.seal(MAX);
        due.is("the fault hits the tenth word since it was armed", b.run(), 2);
        due.is("outcome", b.outcome(0), 2);
        due.is("GIVE without its status, GIVE, MODE", b.words(), heard + 3 + 4 + 2);
    }

    private static void load() {
        due.about("14: BAD when there is no such frame");
        CommandBuses b = Setup.sealed(Setup.every(4, Setup.tellAll(1, 1)), Setup.every(4, Setup.tellAll(1, 2)),
            Setup.every(4, Setup.tellAll(1, 3)), Setup.every(4, Setup.tellAll(1, 4)));
        edges("load(?)", 0, 3, b::load, f -> 120 + 60 * f, -1);
    }

    private static void loadNotSealed() {
        due.about("14: BAD when the table is not sealed");
        CommandBuses b = Setup.tableOf(8);
        for (int f = 0; f < 4; f++) {
            due.is("at first", b.load(f), -1);
        }
        b.seal(1);
        for (int f = 0; f < 4; f++) {
            due.is("after a FULL seal", b.load(f), -1);
        }
        b.seal(MAX);
        due.is("sealed", b.load(3), 8 * 150);
        b.open();
        for (int f = 0; f < 4; f++) {
            due.is("opened", b.load(f), -1);
        }
        due.is("of an empty table", new CommandBuses().load(0), -1);
        CommandBuses empty = Setup.sealed();
        for (int f = 0; f < 4; f++) {
            due.is("of an empty table that is sealed", empty.load(f), 0);
        }
    }

    // ---- 15 to 18

    private static void fault() {
        due.about("15: false when there is no such bus");
        edges("fault(?, 0, 0)", 0, 1, bus -> bit(new CommandBuses().fault(bus, 0, 0)));
        edges("fault(?, 2, 1000)", 0, 1, bus -> bit(new CommandBuses().fault(bus, 2, 1000)));
        due.about("15: false when kind is not 0 .. 2");
        edges("fault(0, ?, 0)", 0, 2, kind -> bit(new CommandBuses().fault(0, kind, 0)));
        edges("fault(1, ?, 1000)", 0, 2, kind -> bit(new CommandBuses().fault(1, kind, 1000)));
        due.about("15: false when k is not 0 .. 1000");
        for (int i = 0; i <= 2; i++) {
            int kind = i;
            edges("fault(0, " + i + ", ?)", 0, 1000, k -> bit(new CommandBuses().fault(0, kind, k)));
            edges("fault(1, " + i + ", ?)", 0, 1000, k -> bit(new CommandBuses().fault(1, kind, k)));
        }
    }

    private static void faultInPlaceOfAnother() {
        due.about("15: in place of one that was");
        for (int was = 0; was <= 2; was++) {
            for (int is = 0; is <= 2; is++) {
                CommandBuses b = Setup.sealed(Setup.tellAll(1, 4));
                b.fault(0, was, 1);
                due.yes("fault", b.fault(0, is, 3));
                b.run();
                due.is("words", b.words(), is == 0 ? 4 : is == 1 ? 5 : 3);
                due.is("the third word is good", b.heard(is == 0 ? 1 : is == 1 ? 2 : 0), 65536);
            }
        }
    }

    private static void runNotSealed() {
        due.about("16: BAD when the table is not sealed");
        CommandBuses b = Setup.tableOf(1);
        due.is("never sealed", b.run(), -1);
        b.seal(149);
        due.is("FULL", b.run(), -1);
        b.seal(150);
        due.is("sealed", b.run(), 1);
        b.open();
        due.is("opened", b.run(), -1);
        due.is("nothing was done", b.terminal(0, 2), 1);
        due.is("nothing was said", b.words(), 2);
        due.is("an empty table", new CommandBuses().run(), -1);
    }

    private static void runAnswersHowMany() {
        due.about("16: how many messages were done in it with an outcome of 1 to 3");
        due.is("of an empty table", Setup.sealed().run(), 0);
        CommandBuses full = Setup.tableOf(8);
        full.seal(MAX);
        due.is("of a full table", full.run(), 8);
        full.fault(0, 0, 0);
        due.is("one with outcome 2", full.run(), 8);
        due.is("outcome", full.outcome(0), 2);
        full.fault(0, 2, 6);
        due.is("one with outcome 3", full.run(), 8);
        due.is("outcome", full.outcome(3), 3);
        full.fault(1, 2, 0);
        due.is("all with outcome 4", full.run(), 0);
        due.is("outcome", full.outcome(7), 4);
        CommandBuses one = Setup.sealed(Setup.mode(0, 1), Setup.mode(1, 1));
        one.live(0, false);
        due.is("one with outcome 4", one.run(), 1);
    }

    private static void outcome() {
        due.about("17: BAD when there is no such message");
        due.is("outcome(0) of an empty table", new CommandBuses().outcome(0), -1);
        for (int count = 1; count <= 8; count++) {
            CommandBuses b = Setup.tableOf(count);
            edges("outcome(?) of " + count, 0, count - 1, b::outcome, i -> 0, -1);
            b.seal(MAX);
            b.run();
            edges("outcome(?) of " + count, 0, count - 1, b::outcome, i -> 1, -1);
        }
    }

    private static void outcomeNeverDone() {
        due.about("17: 0 when it never was");
        CommandBuses b = Setup.sealed(Setup.every(4, Setup.mode(0, 1)), Setup.every(4, Setup.mode(1, 1)),
            Setup.every(4, Setup.mode(2, 1)), Setup.every(4, Setup.mode(3, 1)));
        for (int done = 0; done <= 4; done++) {
            for (int i = 0; i < 4; i++) {
                due.is("outcome(" + i + ") after " + done, b.outcome(i), i < done ? 1 : 0);
            }
            b.run();
        }
        CommandBuses c = Setup.sealed(Setup.mode(0, 1));
        c.live(0, false);
        Setup.run(c, 3);
        c.open();
        Setup.add(c, Setup.mode(0, 2));
        c.seal(MAX);
        c.run();
        due.is("not done, as its terminal is dropped", c.outcome(1), 0);
        due.is("not done again", c.outcome(0), 4);
    }

    private static void bus() {
        due.about("18: the controller's bus");
        CommandBuses b = Setup.sealed(Setup.mode(0, 1));
        due.is("at first", b.bus(), 0);
        for (int i = 0; i < 4; i++) {
            int was = i % 2;
            b.fault(1 - was, 0, 1000);
            b.fault(was, 2, 0);
            b.run();
            due.is("the other one after turn " + i, b.bus(), 1 - was);
        }
        b.fault(1, 2, 0);
        b.fault(0, 2, 0);
        b.run();
        due.is("the same when all three attempts fail", b.bus(), 0);
    }

    // ---- 19 and 20

    private static void words() {
        due.about("19: how many words were heard on both buses");
        due.is("at first", new CommandBuses().words(), 0);
        CommandBuses b = Setup.sealed(Setup.mode(0, 1));
        b.fault(0, 2, 1);
        b.fault(1, 1, 1);
        due.is("run", b.run(), 0);
        due.is("one good word on bus 0, a good and a spoilt one on bus 1", b.words(), 3);
    }

    /** So many words, an odd one being had by the loss of the very first. */
    private static CommandBuses hearing(int count, List<Integer> words) {
        CommandBuses b = Setup.sealed(Setup.tellAll(1, 1));
        if (count % 2 == 1) {
            b.fault(0, 0, 0);
        }
        while (words.size() < count) {
            int value = 1000 + words.size();
            b.give(0, 0, value);
            if (count % 2 == 0 || !words.isEmpty()) {
                words.add(31 * 2048 + 33);
            }
            words.add(65536 + value);
            b.run();
        }
        return b;
    }

    private static void heard() {
        due.about("20: BAD when it has none such");
        int[] counts = {0, 1, 2, 3, 58, 59, 60, 61, 62, 119, 120, 121, 150};
        for (int count : counts) {
            CommandBuses b = hearing(count, new ArrayList<>());
            int has = Math.min(count, 60);
            due.is("words", b.words(), count);
            int[] none = {-1, has, has + 1, 60, 61, 119, 120, count + 60, MIN, MAX};
            for (int i : none) {
                due.is("heard(" + i + ") of " + count, b.heard(i), -1);
            }
            if (has > 0) {
                due.yes("the oldest of " + count, b.heard(has - 1) > 0);
            }
        }
    }

    private static void heardIsTheLatestBut() {
        due.about("20: the latest word but i");
        for (int count = 1; count <= 125; count++) {
            List<Integer> words = new ArrayList<>();
            CommandBuses b = hearing(count, words);
            for (int i = 0; i < Math.min(count, 60); i++) {
                due.is("heard(" + i + ") of " + count, b.heard(i), words.get(count - 1 - i));
            }
        }
    }
}
