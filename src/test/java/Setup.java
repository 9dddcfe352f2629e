/** Messages by their kinds, and objects that have them in their table. */
final class Setup {
    static final int NO_LIMIT = Integer.MAX_VALUE;

    private Setup() {
    }

    static int[] give(int x, int subaddress, int n) {
        return new int[] {0, x, 0, subaddress, n, 1};
    }

    static int[] take(int x, int subaddress, int n) {
        return new int[] {1, x, 0, subaddress, n, 1};
    }

    static int[] pass(int x, int y, int subaddress, int n) {
        return new int[] {2, x, y, subaddress, n, 1};
    }

    static int[] tellAll(int subaddress, int n) {
        return new int[] {3, 0, 0, subaddress, n, 1};
    }

    static int[] mode(int x, int code) {
        return new int[] {4, x, 0, 0, code, 1};
    }

    /** The message with another period. */
    static int[] every(int period, int[] message) {
        int[] other = message.clone();
        other[5] = period;
        return other;
    }

    static int add(CommandBuses b, int[] m) {
        return b.message(m[0], m[1], m[2], m[3], m[4], m[5]);
    }

    static CommandBuses table(int[]... messages) {
        CommandBuses b = new CommandBuses();
        for (int[] m : messages) {
            if (add(b, m) < 0) {
                throw new IllegalStateException("a message of the test was refused");
            }
        }
        return b;
    }

    static CommandBuses sealed(int[]... messages) {
        CommandBuses b = table(messages);
        if (b.seal(NO_LIMIT) < 0) {
            throw new IllegalStateException("the table of the test was not sealed");
        }
        return b;
    }

    /** As many messages as asked for, of which each is in every frame. */
    static CommandBuses tableOf(int count) {
        CommandBuses b = new CommandBuses();
        for (int i = 0; i < count; i++) {
            add(b, mode(i % 6, 1));
        }
        return b;
    }

    static void run(CommandBuses b, int times) {
        for (int i = 0; i < times; i++) {
            b.run();
        }
    }

    static void giveAll(CommandBuses b, int message, int... values) {
        for (int k = 0; k < values.length; k++) {
            b.give(message, k, values[k]);
        }
    }

    static void publishAll(CommandBuses b, int terminal, int subaddress, int... values) {
        for (int k = 0; k < values.length; k++) {
            b.draft(terminal, subaddress, k, values[k]);
        }
        b.publish(terminal, subaddress);
    }
}
