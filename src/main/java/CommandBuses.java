import java.util.Arrays;

/**
 * A controller and its terminals on two buses. The face checks what it is given; the classes inside
 * trust that their numbers are in range.
 */
public final class CommandBuses {
    public static final int BAD = -1;
    public static final int FULL = -2;
    public static final int SYNC = -3;
    public static final int HALVES = -4;
    public static final int PARITY = -5;
    public static final int SEALED = -6;

    private static final int BUSES = 2;
    private static final int TERMINALS = 6;
    private static final int SUBADDRESSES = 3;
    private static final int VALUES = 4;
    private static final int MESSAGES = 8;
    private static final int FRAMES = 4;
    private static final int GREATEST_VALUE = 65535;

    private static final int DATA_MARK = 65536;
    private static final int SPOILT_MARK = 131072;
    private static final int BUS_MARK = 262144;

    private static final int FAULT_LOSE = 0;
    private static final int FAULT_SPOIL = 1;
    private static final int FAULT_CUT = 2;
    private static final int GREATEST_DELAY = 1000;

    private static final int KIND_GIVE = 0;
    private static final int KIND_TAKE = 1;
    private static final int KIND_PASS = 2;
    private static final int KIND_TELL_ALL = 3;
    private static final int KIND_MODE = 4;

    private static final int MODE_SYNCHRONIZE = 1;
    private static final int MODE_TELL_STATUS = 2;
    private static final int MODE_SHUT = 4;
    private static final int MODE_UNSHUT = 5;
    private static final int MODE_RESET = 8;
    private static final int MODE_TELL_COMMAND = 18;

    private static final int OUTCOME_FAILED = 4;

    private final Controller controller;
    private final Terminal[] terminals;
    private final Wires wires;
    private final Table table;
    private final Roster roster;

    public CommandBuses() {
        controller = new Controller();
        terminals = controller.terminals;
        wires = controller.wires;
        table = new Table();
        roster = new Roster();
    }

    public long encode(boolean data, int value) {
        return isValue(value) ? Coding.halvesOf(data, value) : BAD;
    }

    public int decode(long halves) {
        return Coding.wordOf(halves);
    }

    public boolean live(int terminal, boolean on) {
        if (!isTerminal(terminal)) {
            return false;
        }
        terminals[terminal].isLive = on;
        return true;
    }

    public boolean draft(int terminal, int subaddress, int k, int v) {
        if (!isPlace(terminal, subaddress) || !isIndex(k) || !isValue(v)) {
            return false;
        }
        terminals[terminal].drafts[Terminal.firstOf(subaddress) + k] = v;
        return true;
    }

    public boolean publish(int terminal, int subaddress) {
        if (!isPlace(terminal, subaddress)) {
            return false;
        }
        terminals[terminal].sendDraft(subaddress);
        return true;
    }

    public int received(int terminal, int subaddress, int k) {
        if (!isPlace(terminal, subaddress) || !isIndex(k)) {
            return BAD;
        }
        return terminals[terminal].valueReceived(subaddress, k);
    }

    public int terminal(int terminal, int what) {
        if (!isTerminal(terminal)) {
            return BAD;
        }
        Terminal t = terminals[terminal];
        switch (what) {
            case 0:
                return t.status();
            case 1:
                return t.lastCommand;
            case 2:
                return t.timesSynchronized;
            case 3:
                return t.isShut[0] ? 1 : 0;
            case 4:
                return t.isShut[1] ? 1 : 0;
            case 5:
                return roster.badFrames[terminal];
            case 6:
                return roster.isDropped[terminal] ? 1 : 0;
            default:
                return BAD;
        }
    }

    public int message(int kind, int x, int y, int subaddress, int n, int period) {
        if (table.isSealed) {
            return SEALED;
        }
        if (!isPeriod(period) || !areTerminalsOf(kind, x, y) || !isContentOf(kind, subaddress, n)) {
            return BAD;
        }
        if (table.count == MESSAGES) {
            return FULL;
        }
        return table.add(new Message(kind, x, y, subaddress, n, period));
    }

    public boolean give(int message, int k, int v) {
        Message m = table.find(message);
        if (m == null || !isIndex(k) || !isValue(v)) {
            return false;
        }
        m.values[k] = v;
        return true;
    }

    public int taken(int message, int k) {
        Message m = table.find(message);
        return m == null || !isIndex(k) ? BAD : m.values[k];
    }

    public int seal(int budget) {
        if (table.isSealed) {
            return SEALED;
        }
        if (budget < 0) {
            return BAD;
        }
        int greatest = table.fillFrames();
        if (greatest > budget) {
            return FULL;
        }
        table.isSealed = true;
        table.nextFrame = 0;
        return greatest;
    }

    public boolean open() {
        boolean wasSealed = table.isSealed;
        table.isSealed = false;
        return wasSealed;
    }

    public int load(int frame) {
        return !table.isSealed || frame < 0 || frame >= FRAMES ? BAD : table.loads[frame];
    }

    public boolean fault(int bus, int kind, int k) {
        if (bus < 0 || bus >= BUSES || kind < FAULT_LOSE || kind > FAULT_CUT) {
            return false;
        }
        if (k < 0 || k > GREATEST_DELAY) {
            return false;
        }
        wires.arm(bus, kind, k);
        return true;
    }

    public int run() {
        if (!table.isSealed) {
            return BAD;
        }
        int frame = table.takeFrame();
        if (frame == 0) {
            pollDropped();
        }
        int well = 0;
        for (int i = 0; i < table.count; i++) {
            Message m = table.messages[i];
            if (m.isIn(frame) && !roster.hasDropped(m)) {
                m.outcome = controller.outcomeOfDoing(m);
                roster.note(m);
                well += m.outcome == OUTCOME_FAILED ? 0 : 1;
            }
        }
        roster.endFrame();
        return well;
    }

    public int outcome(int message) {
        Message m = table.find(message);
        return m == null ? BAD : m.outcome;
    }

    public int bus() {
        return controller.ownBus;
    }

    public int words() {
        return wires.monitor.written;
    }

    public int heard(int i) {
        return wires.monitor.latestBut(i);
    }

    private void pollDropped() {
        for (int i = 0; i < TERMINALS; i++) {
            if (roster.isDropped[i] && controller.answersPoll(i)) {
                roster.takeBack(i);
            }
        }
    }

    private static boolean isTerminal(int terminal) {
        return terminal >= 0 && terminal < TERMINALS;
    }

    private static boolean isSubaddress(int subaddress) {
        return subaddress >= 1 && subaddress <= SUBADDRESSES;
    }

    private static boolean isPlace(int terminal, int subaddress) {
        return isTerminal(terminal) && isSubaddress(subaddress);
    }

    private static boolean isIndex(int k) {
        return k >= 0 && k < VALUES;
    }

    private static boolean isValue(int v) {
        return v >= 0 && v <= GREATEST_VALUE;
    }

    private static boolean isPeriod(int period) {
        return period == 1 || period == 2 || period == 4;
    }

    private static boolean isModeCode(int code) {
        return code == MODE_SYNCHRONIZE || code == MODE_TELL_STATUS || code == MODE_SHUT
            || code == MODE_UNSHUT || code == MODE_RESET || code == MODE_TELL_COMMAND;
    }

    private static boolean areTerminalsOf(int kind, int x, int y) {
        if (kind == KIND_TELL_ALL) {
            return true;
        }
        if (kind == KIND_PASS) {
            return isTerminal(x) && isTerminal(y) && x != y;
        }
        return isTerminal(x);
    }

    private static boolean isContentOf(int kind, int subaddress, int n) {
        if (kind == KIND_MODE) {
            return isModeCode(n);
        }
        return kind >= KIND_GIVE && kind <= KIND_TELL_ALL
            && isSubaddress(subaddress) && n >= 1 && n <= VALUES;
    }

    /** Words as they are on the wire. */
    private static final class Coding {
        private static final int COMMAND_SYNC = 0b111000;
        private static final int DATA_SYNC = 0b000111;
        private static final int ONE = 0b10;
        private static final int ZERO = 0b01;
        private static final int BITS = 17;
        private static final int HALVES_OF_WORD = 40;

        static long halvesOf(boolean data, int value) {
            int parity = isOdd(value) ? 0 : 1;
            int bits = value * 2 + parity;
            long halves = data ? DATA_SYNC : COMMAND_SYNC;
            for (int i = BITS - 1; i >= 0; i--) {
                halves = halves * 4 + (((bits >> i) & 1) == 1 ? ONE : ZERO);
            }
            return halves;
        }

        static int wordOf(long halves) {
            if (halves < 0 || halves >= 1L << HALVES_OF_WORD) {
                return BAD;
            }
            int sync = (int) (halves >> (2 * BITS));
            if (sync != COMMAND_SYNC && sync != DATA_SYNC) {
                return SYNC;
            }
            int bits = 0;
            for (int i = BITS - 1; i >= 0; i--) {
                int pair = (int) (halves >> (2 * i)) & 3;
                if (pair != ONE && pair != ZERO) {
                    return HALVES;
                }
                bits = bits * 2 + (pair == ONE ? 1 : 0);
            }
            if (!isOdd(bits)) {
                return PARITY;
            }
            return (bits >> 1) + (sync == DATA_SYNC ? DATA_MARK : 0);
        }

        private static boolean isOdd(int bits) {
            return (Integer.bitCount(bits) & 1) == 1;
        }
    }

    /** The values of command words. */
    private static final class Commands {
        private static final int ALL_TERMINALS = 31;
        private static final int TERMINAL_UNIT = 2048;
        private static final int TURN_SEND = 1024;
        private static final int SUBADDRESS_UNIT = 32;

        static int toReceive(int terminal, int subaddress, int n) {
            return terminal * TERMINAL_UNIT + subaddress * SUBADDRESS_UNIT + n;
        }

        static int toSend(int terminal, int subaddress, int n) {
            return toReceive(terminal, subaddress, n) + TURN_SEND;
        }

        static int mode(int terminal, int code) {
            return toSend(terminal, 0, code);
        }
    }

    /** Both buses with their faults, and the monitor that listens to them. */
    private static final class Wires {
        private static final int NO_FAULT = -1;

        private final Monitor monitor = new Monitor();
        private final int[] faultKinds = new int[BUSES];
        private final int[] wordsBefore = new int[BUSES];

        Wires() {
            Arrays.fill(faultKinds, NO_FAULT);
        }

        void arm(int bus, int kind, int k) {
            faultKinds[bus] = kind;
            wordsBefore[bus] = k;
        }

        /** Whether the word comes good. A lost and a spoilt word differ for the monitor alone. */
        boolean carry(int bus, int word) {
            int hit = nextHit(bus);
            if (hit == FAULT_LOSE || hit == FAULT_CUT) {
                return false;
            }
            int spoilt = hit == FAULT_SPOIL ? SPOILT_MARK : 0;
            monitor.write(word + spoilt + bus * BUS_MARK);
            return hit == NO_FAULT;
        }

        /** Sends n values of a row as data words; whether all of them come good. */
        boolean carryData(int bus, int[] row, int first, int n) {
            boolean allGood = true;
            for (int k = 0; k < n; k++) {
                boolean good = carry(bus, DATA_MARK + row[first + k]);
                allGood = allGood && good;
            }
            return allGood;
        }

        private int nextHit(int bus) {
            int kind = faultKinds[bus];
            if (kind == NO_FAULT) {
                return NO_FAULT;
            }
            if (wordsBefore[bus] > 0) {
                wordsBefore[bus]--;
                return NO_FAULT;
            }
            if (kind != FAULT_CUT) {
                faultKinds[bus] = NO_FAULT;
            }
            return kind;
        }
    }

    /** The latest words heard, the oldest written over first. */
    private static final class Monitor {
        private static final int ROOM = 60;

        private final int[] latest = new int[ROOM];
        private int next;
        private int written;

        void write(int word) {
            latest[next] = word;
            next = (next + 1) % ROOM;
            written++;
        }

        int latestBut(int i) {
            if (i < 0 || i >= ROOM || i >= written) {
                return BAD;
            }
            return latest[(next + ROOM - 1 - i) % ROOM];
        }
    }

    /** A terminal; its rows have the four values of each subaddress one after another. */
    private static final class Terminal {
        private static final int STATUS_UNIT = 2048;
        private static final int ERROR_MARK = 1024;
        private static final int ALL_MARK = 16;

        private final int number;
        private boolean isLive = true;
        private boolean hasError;
        private boolean hasAll;
        private int lastCommand;
        private int timesSynchronized;
        private final boolean[] isShut = new boolean[BUSES];
        private final int[] drafts = new int[SUBADDRESSES * VALUES];
        private final int[] toSend = new int[SUBADDRESSES * VALUES];
        private final int[] received = new int[SUBADDRESSES * VALUES];
        private final boolean[] hasReceived = new boolean[SUBADDRESSES];

        Terminal(int number) {
            this.number = number;
        }

        static int firstOf(int subaddress) {
            return (subaddress - 1) * VALUES;
        }

        int status() {
            return number * STATUS_UNIT + (hasError ? ERROR_MARK : 0) + (hasAll ? ALL_MARK : 0);
        }

        void sendDraft(int subaddress) {
            int first = firstOf(subaddress);
            System.arraycopy(drafts, first, toSend, first, VALUES);
        }

        int valueReceived(int subaddress, int k) {
            return hasReceived[subaddress - 1] ? received[firstOf(subaddress) + k] : BAD;
        }

        /** Begins to obey a good command that is no MODE command; false when it is not live. */
        boolean obey(int command) {
            if (!isLive) {
                return false;
            }
            clearMarks();
            lastCommand = command;
            return true;
        }

        /** Obeys a good MODE command, but for the answer; false when it is not live. */
        boolean obeyMode(int code, int bus) {
            if (!isLive) {
                return false;
            }
            if (code != MODE_TELL_STATUS && code != MODE_TELL_COMMAND) {
                clearMarks();
            }
            if (code != MODE_TELL_COMMAND) {
                lastCommand = Commands.mode(number, code);
            }
            changeBy(code, BUSES - 1 - bus);
            return true;
        }

        private void changeBy(int code, int otherBus) {
            if (code == MODE_SYNCHRONIZE) {
                timesSynchronized++;
            } else if (code == MODE_SHUT) {
                isShut[otherBus] = true;
            } else if (code == MODE_UNSHUT) {
                isShut[otherBus] = false;
            } else if (code == MODE_RESET) {
                isShut[0] = false;
                isShut[1] = false;
            }
        }

        private void clearMarks() {
            hasError = false;
            hasAll = false;
        }

        /** Ends a RECEIVE with n values of a row, or with the ERROR mark when not all came good. */
        boolean receive(boolean dataGood, int subaddress, int[] row, int first, int n) {
            if (!dataGood) {
                hasError = true;
                return false;
            }
            int own = firstOf(subaddress);
            for (int k = 0; k < VALUES; k++) {
                received[own + k] = k < n ? row[first + k] : 0;
            }
            hasReceived[subaddress - 1] = true;
            return true;
        }
    }

    /** A message of the controller's table. */
    private static final class Message {
        private final int kind;
        private final int x;
        private final int y;
        private final int subaddress;
        private final int n;
        private final int period;
        private final int[] values = new int[VALUES];
        private int phase;
        private int outcome;

        Message(int kind, int x, int y, int subaddress, int n, int period) {
            this.kind = kind;
            this.x = x;
            this.y = y;
            this.subaddress = subaddress;
            this.n = n;
            this.period = period;
        }

        boolean isFor(int terminal) {
            if (kind == KIND_TELL_ALL) {
                return false;
            }
            return terminal == x || kind == KIND_PASS && terminal == y;
        }

        boolean isIn(int frame) {
            return isAt(phase, frame);
        }

        /** Whether it would be in the frame with this phase; a period is a power of two. */
        boolean isAt(int somePhase, int frame) {
            return (frame & (period - 1)) == somePhase;
        }

        int length() {
            int statuses = statuses();
            int words = commands() + dataWords() + statuses;
            return 3 * (20 * words + 10 * statuses);
        }

        private int commands() {
            return kind == KIND_PASS ? 2 : 1;
        }

        private int statuses() {
            if (kind == KIND_TELL_ALL) {
                return 0;
            }
            return kind == KIND_PASS ? 2 : 1;
        }

        private int dataWords() {
            if (kind != KIND_MODE) {
                return n;
            }
            return n == MODE_TELL_COMMAND ? 1 : 0;
        }
    }

    /** The messages, and the frames that they are in while the table is sealed. */
    private static final class Table {
        private final Message[] messages = new Message[MESSAGES];
        private final int[] loads = new int[FRAMES];
        private int count;
        private int nextFrame;
        private boolean isSealed;

        int add(Message message) {
            messages[count] = message;
            count++;
            return count - 1;
        }

        Message find(int number) {
            return number >= 0 && number < count ? messages[number] : null;
        }

        int takeFrame() {
            int frame = nextFrame;
            nextFrame = (nextFrame + 1) % FRAMES;
            return frame;
        }

        /** Gives every message its phase and every frame its load; answers the greatest load. */
        int fillFrames() {
            Arrays.fill(loads, 0);
            for (int i = 0; i < count; i++) {
                Message m = messages[i];
                m.phase = bestPhase(m);
                addLength(m);
            }
            int greatest = 0;
            for (int frame = 0; frame < FRAMES; frame++) {
                greatest = Math.max(greatest, loads[frame]);
            }
            return greatest;
        }

        private int bestPhase(Message m) {
            int best = 0;
            for (int phase = 1; phase < m.period; phase++) {
                if (greatestLoad(m, phase) < greatestLoad(m, best)) {
                    best = phase;
                }
            }
            return best;
        }

        /** Without the message's own length, which is the same for every phase. */
        private int greatestLoad(Message m, int phase) {
            int greatest = 0;
            for (int frame = 0; frame < FRAMES; frame++) {
                if (m.isAt(phase, frame)) {
                    greatest = Math.max(greatest, loads[frame]);
                }
            }
            return greatest;
        }

        private void addLength(Message m) {
            int length = m.length();
            for (int frame = 0; frame < FRAMES; frame++) {
                if (m.isIn(frame)) {
                    loads[frame] += length;
                }
            }
        }
    }

    /** What the controller holds of the terminals: bad frames, and who is dropped. */
    private static final class Roster {
        private static final int DROPPING_COUNT = 3;

        private final int[] badFrames = new int[TERMINALS];
        private final boolean[] isDropped = new boolean[TERMINALS];
        private final boolean[] wasUsed = new boolean[TERMINALS];
        private final boolean[] hasFailed = new boolean[TERMINALS];

        boolean hasDropped(Message m) {
            for (int i = 0; i < TERMINALS; i++) {
                if (isDropped[i] && m.isFor(i)) {
                    return true;
                }
            }
            return false;
        }

        void takeBack(int terminal) {
            isDropped[terminal] = false;
            badFrames[terminal] = 0;
        }

        /** Keeps what a message that was done means for its terminals until the frame ends. */
        void note(Message m) {
            for (int i = 0; i < TERMINALS; i++) {
                if (m.isFor(i)) {
                    wasUsed[i] = true;
                    hasFailed[i] = hasFailed[i] || m.outcome == OUTCOME_FAILED;
                }
            }
        }

        void endFrame() {
            for (int i = 0; i < TERMINALS; i++) {
                if (wasUsed[i]) {
                    badFrames[i] = hasFailed[i] ? badFrames[i] + 1 : 0;
                    isDropped[i] = badFrames[i] == DROPPING_COUNT;
                }
                wasUsed[i] = false;
                hasFailed[i] = false;
            }
        }
    }

    /** Makes attempts. Each word is sent whatever became of those before it. */
    private static final class Controller {
        private final Terminal[] terminals = new Terminal[TERMINALS];
        private final Wires wires = new Wires();
        private int ownBus;

        Controller() {
            for (int i = 0; i < TERMINALS; i++) {
                terminals[i] = new Terminal(i);
            }
        }

        int outcomeOfDoing(Message m) {
            if (goesWell(m, ownBus)) {
                return 1;
            }
            if (goesWell(m, ownBus)) {
                return 2;
            }
            int otherBus = BUSES - 1 - ownBus;
            if (goesWell(m, otherBus)) {
                ownBus = otherBus;
                return 3;
            }
            return OUTCOME_FAILED;
        }

        boolean answersPoll(int terminal) {
            return modeGoesWell(terminals[terminal], MODE_TELL_STATUS, ownBus);
        }

        private boolean goesWell(Message m, int bus) {
            switch (m.kind) {
                case KIND_GIVE:
                    return giveGoesWell(m, bus);
                case KIND_TAKE:
                    return takeGoesWell(m, bus);
                case KIND_PASS:
                    return passGoesWell(m, bus);
                case KIND_TELL_ALL:
                    tellAll(m, bus);
                    return true;
                default:
                    return modeMessageGoesWell(m, bus);
            }
        }

        private boolean giveGoesWell(Message m, int bus) {
            Terminal x = terminals[m.x];
            int command = Commands.toReceive(m.x, m.subaddress, m.n);
            boolean obeys = wires.carry(bus, command) && x.obey(command);
            boolean dataGood = wires.carryData(bus, m.values, 0, m.n);
            boolean receives = obeys && x.receive(dataGood, m.subaddress, m.values, 0, m.n);
            return receives && !x.isShut[bus] && wires.carry(bus, x.status());
        }

        private boolean takeGoesWell(Message m, int bus) {
            Terminal x = terminals[m.x];
            int first = Terminal.firstOf(m.subaddress);
            int command = Commands.toSend(m.x, m.subaddress, m.n);
            boolean answers = wires.carry(bus, command) && x.obey(command) && !x.isShut[bus];
            boolean statusGood = answers && wires.carry(bus, x.status());
            boolean dataGood = answers && wires.carryData(bus, x.toSend, first, m.n);
            if (!statusGood || !dataGood) {
                return false;
            }
            System.arraycopy(x.toSend, first, m.values, 0, m.n);
            return true;
        }

        private boolean passGoesWell(Message m, int bus) {
            Terminal x = terminals[m.x];
            Terminal y = terminals[m.y];
            int first = Terminal.firstOf(m.subaddress);
            int toReceive = Commands.toReceive(m.y, m.subaddress, m.n);
            int toSend = Commands.toSend(m.x, m.subaddress, m.n);
            boolean obeysY = wires.carry(bus, toReceive) && y.obey(toReceive);
            boolean answersX = wires.carry(bus, toSend) && x.obey(toSend) && !x.isShut[bus];
            boolean statusGoodX = answersX && wires.carry(bus, x.status());
            boolean dataGood = answersX && wires.carryData(bus, x.toSend, first, m.n);
            boolean receivesY = obeysY && y.receive(dataGood, m.subaddress, x.toSend, first, m.n);
            boolean statusGoodY = receivesY && !y.isShut[bus] && wires.carry(bus, y.status());
            return statusGoodX && statusGoodY;
        }

        private void tellAll(Message m, int bus) {
            int command = Commands.toReceive(Commands.ALL_TERMINALS, m.subaddress, m.n);
            boolean commandGood = wires.carry(bus, command);
            boolean dataGood = wires.carryData(bus, m.values, 0, m.n);
            for (int i = 0; i < TERMINALS; i++) {
                Terminal t = terminals[i];
                if (commandGood && t.obey(command)) {
                    t.hasAll = t.receive(dataGood, m.subaddress, m.values, 0, m.n);
                }
            }
        }

        private boolean modeMessageGoesWell(Message m, int bus) {
            Terminal x = terminals[m.x];
            boolean well = modeGoesWell(x, m.n, bus);
            if (well && m.n == MODE_TELL_COMMAND) {
                m.values[0] = x.lastCommand;
            }
            return well;
        }

        private boolean modeGoesWell(Terminal x, int code, int bus) {
            boolean obeys = wires.carry(bus, Commands.mode(x.number, code)) && x.obeyMode(code, bus);
            boolean answers = obeys && !x.isShut[bus];
            boolean statusGood = answers && wires.carry(bus, x.status());
            if (code != MODE_TELL_COMMAND) {
                return statusGood;
            }
            boolean dataGood = answers && wires.carry(bus, DATA_MARK + x.lastCommand);
            return statusGood && dataGood;
        }
    }
}
