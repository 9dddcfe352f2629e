import java.util.Random;

/** Promises 1 and 4 to 20: long runs of mixed calls, the same ones each time, against the model. */
public final class ModelTest {
    private static final int RUNS = 4000;
    /** Some of one or two calls: with the look at all, an object stays under its 512 calls. */
    private static final int STEPS = 130;
    private static final Due due = new Due();

    private final CommandBuses b = new CommandBuses();
    private final Model m = new Model();
    private final Random random;
    private final String name;

    private ModelTest(int seed) {
        random = new Random(seed);
        name = "run " + seed + ", ";
    }

    public static void main(String[] args) {
        for (int seed = 0; seed < RUNS; seed++) {
            ModelTest test = new ModelTest(seed);
            test.fillTable();
            for (int i = 0; i < STEPS; i++) {
                test.step();
            }
            test.lookAtAll();
        }
        due.end();
    }

    /** From least to greatest, and now and then one beyond. */
    private int near(int least, int greatest) {
        if (random.nextInt(25) == 0) {
            return random.nextBoolean() ? least - 1 : greatest + 1;
        }
        return least + random.nextInt(greatest - least + 1);
    }

    private int value() {
        return random.nextInt(20) == 0 ? near(0, 65535) : random.nextInt(65536);
    }

    private void fillTable() {
        int count = 1 + random.nextInt(8);
        for (int i = 0; i < count; i++) {
            message();
        }
        is("seal", b.seal(9999), m.seal(9999));
    }

    private void step() {
        int what = random.nextInt(100);
        if (what < 42) {
            is("run()", b.run(), m.run());
        } else if (what < 56) {
            fault();
        } else if (what < 64) {
            int t = near(0, 5);
            boolean on = random.nextInt(3) != 0;
            is("live(" + t + ", " + on + ")", b.live(t, on), m.live(t, on));
        } else if (what < 80) {
            values();
        } else if (what < 86) {
            tableCalls();
        } else {
            ask();
        }
    }

    private void fault() {
        int bus = near(0, 1);
        int kind = near(0, 2);
        int k = random.nextInt(30) == 0 ? near(0, 1000) : near(0, 25);
        is("fault(" + bus + ", " + kind + ", " + k + ")", b.fault(bus, kind, k), m.fault(bus, kind, k));
    }

    private void values() {
        int t = near(0, 5);
        int s = near(1, 3);
        int k = near(0, 3);
        int v = value();
        int i = near(0, 7);
        is("draft", b.draft(t, s, k, v), m.draft(t, s, k, v));
        if (random.nextBoolean()) {
            is("publish(" + t + ", " + s + ")", b.publish(t, s), m.publish(t, s));
        }
        is("give(" + i + ", " + k + ", " + v + ")", b.give(i, k, v), m.give(i, k, v));
    }

    private void tableCalls() {
        if (random.nextInt(3) == 0) {
            is("open()", b.open(), m.open());
        }
        if (random.nextInt(3) == 0) {
            message();
        }
        int budget = random.nextInt(8) == 0 ? -1 : random.nextInt(3) == 0 ? random.nextInt(1500) : 9999;
        is("seal(" + budget + ")", b.seal(budget), m.seal(budget));
        if (random.nextInt(3) != 0) {
            is("seal(9999)", b.seal(9999), m.seal(9999));
        }
    }

    private void message() {
        int[] codes = {1, 2, 4, 5, 8, 18};
        int kind = near(0, 4);
        int x = near(0, 5);
        int y = near(0, 5);
        int s = near(1, 3);
        int n = kind == 4 && random.nextInt(20) != 0 ? codes[random.nextInt(6)] : near(1, 4);
        int period = random.nextInt(25) == 0 ? near(0, 5) : 1 << random.nextInt(3);
        is("message(" + kind + ", " + x + ", " + y + ", " + s + ", " + n + ", " + period + ")",
            b.message(kind, x, y, s, n, period), m.message(kind, x, y, s, n, period));
    }

    private void ask() {
        int t = near(0, 5);
        int what = near(0, 6);
        int i = near(0, 7);
        int f = near(0, 3);
        is("terminal(" + t + ", " + what + ")", b.terminal(t, what), m.terminal(t, what));
        is("outcome(" + i + ")", b.outcome(i), m.outcome(i));
        is("load(" + f + ")", b.load(f), m.load(f));
        is("bus()", b.bus(), m.bus());
    }

    private void lookAtAll() {
        for (int t = 0; t < 6; t++) {
            for (int what = 0; what < 7; what++) {
                is("terminal(" + t + ", " + what + ")", b.terminal(t, what), m.terminal(t, what));
            }
            for (int s = 1; s <= 3; s++) {
                for (int k = 0; k < 4; k++) {
                    is("received(" + t + ", " + s + ", " + k + ")", b.received(t, s, k), m.received(t, s, k));
                }
            }
        }
        for (int i = 0; i < 8; i++) {
            is("outcome(" + i + ")", b.outcome(i), m.outcome(i));
            for (int k = 0; k < 4; k++) {
                is("taken(" + i + ", " + k + ")", b.taken(i, k), m.taken(i, k));
            }
        }
        for (int i = 0; i <= 60; i++) {
            is("heard(" + i + ")", b.heard(i), m.heard(i));
        }
        is("words()", b.words(), m.words());
        is("bus()", b.bus(), m.bus());
    }

    private void is(String call, long got, long want) {
        due.is(name + call, got, want);
    }

    private void is(String call, boolean got, boolean want) {
        due.is(name + call, got, want);
    }
}
