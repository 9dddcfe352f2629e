/** Promises 2 and 3: encode and decode, against halves written as text. */
public final class WordsTest {
    private static final Due due = new Due();
    private static final String COMMAND = "111000";
    private static final String DATA = "000111";

    public static void main(String[] args) {
        writtenOut(new CommandBuses());
        everyWord();
        wrongValues(new CommandBuses());
        outOfRange(new CommandBuses());
        syncs(new CommandBuses());
        halvesOfABit(new CommandBuses());
        parity(new CommandBuses());
        whatIsWrongFirst(new CommandBuses());
        due.end();
    }

    private static String text(boolean data, int value) {
        StringBuilder bits = new StringBuilder();
        int ones = 0;
        for (int worth = 32768; worth >= 1; worth /= 2) {
            boolean one = value / worth % 2 == 1;
            ones += one ? 1 : 0;
            bits.append(one ? "10" : "01");
        }
        bits.append(ones % 2 == 1 ? "01" : "10");
        return (data ? DATA : COMMAND) + bits;
    }

    private static long halves(String text) {
        return Long.parseLong(text, 2);
    }

    private static String flipped(String text, int at) {
        char other = text.charAt(at) == '1' ? '0' : '1';
        return text.substring(0, at) + other + text.substring(at + 1);
    }

    private static void writtenOut(CommandBuses b) {
        due.is("encode(false, 0)", b.encode(false, 0),
            0b111000_0101010101010101_0101010101010101_10L);
        due.is("encode(true, 65535)", b.encode(true, 65535),
            0b000111_1010101010101010_1010101010101010_10L);
        due.is("encode(false, 32769)", b.encode(false, 32769),
            0b111000_1001010101010101_0101010101010110_10L);
        due.is("encode(true, 4)", b.encode(true, 4),
            0b000111_0101010101010101_0101010101100101_01L);
    }

    /** A new object for every value: nothing is promised after 512 calls on one. */
    private static void everyWord() {
        for (int v = 0; v <= 65535; v++) {
            CommandBuses b = new CommandBuses();
            long command = halves(text(false, v));
            long data = halves(text(true, v));
            due.is("encode(false, " + v + ")", b.encode(false, v), command);
            due.is("encode(true, " + v + ")", b.encode(true, v), data);
            due.is("decode(" + command + ")", b.decode(command), v);
            due.is("decode(" + data + ")", b.decode(data), 65536 + v);
        }
    }

    private static void wrongValues(CommandBuses b) {
        int[] wrong = {-1, 65536, 131071, Integer.MIN_VALUE, Integer.MAX_VALUE};
        for (int v : wrong) {
            due.is("encode(false, " + v + ")", b.encode(false, v), -1);
            due.is("encode(true, " + v + ")", b.encode(true, v), -1);
        }
    }

    private static void outOfRange(CommandBuses b) {
        long good = b.encode(false, 77);
        long[] wrong = {-1, 1L << 40, good + (1L << 40), good - (1L << 40), good | 1L << 62,
            good | Long.MIN_VALUE, Long.MIN_VALUE, Long.MAX_VALUE};
        for (long h : wrong) {
            due.is("decode(" + h + ")", b.decode(h), -1);
        }
        due.is("decode(0)", b.decode(0), -3);
        due.is("decode(2^40 - 1)", b.decode((1L << 40) - 1), -3);
    }

    private static void syncs(CommandBuses b) {
        String rest = text(false, 4660).substring(6);
        for (int s = 0; s < 64; s++) {
            long h = ((long) s << 34) + halves(rest);
            int want = s == 0b111000 ? 4660 : s == 0b000111 ? 65536 + 4660 : -3;
            due.is("decode with the sync " + s, b.decode(h), want);
        }
    }

    private static void halvesOfABit(CommandBuses b) {
        int[] values = {0, 65535, 43690, 21845, 4660};
        for (int v : values) {
            for (int at = 6; at < 40; at++) {
                String text = flipped(text(true, v), at);
                due.is("decode(" + text + ")", b.decode(halves(text)), -4);
            }
        }
    }

    private static void parity(CommandBuses b) {
        int[] values = {0, 65535, 1, 32768, 4660};
        for (int v : values) {
            for (int at = 6; at < 40; at += 2) {
                String text = flipped(flipped(text(false, v), at), at + 1);
                due.is("decode(" + text + ")", b.decode(halves(text)), -5);
            }
            String two = flipped(flipped(flipped(flipped(text(false, v), 6), 7), 36), 37);
            due.is("decode of two bits changed", b.decode(halves(two)), v ^ 32769);
        }
    }

    private static void whatIsWrongFirst(CommandBuses b) {
        String evenAndHalves = flipped(flipped(flipped(text(false, 3), 6), 7), 39);
        due.is("halves before parity", b.decode(halves(evenAndHalves)), -4);
        due.is("sync before halves", b.decode(halves(flipped(evenAndHalves, 0))), -3);
        due.is("range before sync", b.decode(halves(flipped(evenAndHalves, 0)) + (1L << 40)), -1);
    }
}
