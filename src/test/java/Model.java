import java.util.ArrayList;
import java.util.List;

/**
 * The document once more, told word by word: each word goes over a bus to all who listen, and every
 * terminal reads its commands from the bits alone. Slow, and built otherwise than the program, so
 * that the two do not err alike.
 */
final class Model {
    private static final class Term {
        boolean live = true;
        final int[][] draft = new int[4][4];
        final int[][] send = new int[4][4];
        final int[][] got = new int[4][];
        boolean error;
        boolean all;
        int last;
        int syncs;
        final boolean[] shut = new boolean[2];
        int bad;
        boolean dropped;
        int waitsFor;
        int waitsIn;
        boolean waitsForAll;
        final List<Integer> data = new ArrayList<>();
    }

    private static final class Msg {
        int kind;
        int x;
        int y;
        int sub;
        int n;
        int period;
        int phase;
        int outcome;
        final int[] values = new int[4];
    }

    private final Term[] terms = new Term[6];
    private final List<Msg> table = new ArrayList<>();
    private final List<Integer> log = new ArrayList<>();
    private final int[] faultKind = {-1, -1};
    private final int[] faultAt = new int[2];
    private final int[] come = new int[2];
    private final List<Integer> goodStatuses = new ArrayList<>();
    private final List<Integer> goodData = new ArrayList<>();
    private boolean sealed;
    private int frame;
    private int bus;

    Model() {
        for (int i = 0; i < 6; i++) {
            terms[i] = new Term();
        }
    }

    // ---- the wire

    private boolean transmit(int on, boolean data, int value) {
        int at = come[on]++;
        boolean hit = faultKind[on] >= 0 && at == faultAt[on];
        boolean lost = hit && faultKind[on] == 0 || faultKind[on] == 2 && at >= faultAt[on];
        boolean spoilt = hit && faultKind[on] == 1;
        if (!lost) {
            log.add(value + (data ? 1 << 16 : 0) + (spoilt ? 1 << 17 : 0) + on * (1 << 18));
        }
        boolean good = !lost && !spoilt;
        if (good && data) {
            for (Term t : terms) {
                if (t.waitsFor > 0) {
                    t.data.add(value);
                }
            }
        }
        return good;
    }

    private void command(int on, int value) {
        if (!transmit(on, false, value)) {
            return;
        }
        int address = value >> 11;
        for (int i = 0; i < 6; i++) {
            if (terms[i].live && (address == i || address == 31)) {
                obey(i, on, value);
            }
        }
    }

    private void obey(int i, int on, int value) {
        Term t = terms[i];
        boolean turn = (value >> 10 & 1) == 1;
        int sub = value >> 5 & 31;
        int n = value & 31;
        boolean tells = turn && sub == 0 && (n == 2 || n == 18);
        if (!tells) {
            t.error = false;
            t.all = false;
        }
        if (!(tells && n == 18)) {
            t.last = value;
        }
        if (!turn) {
            t.waitsFor = n;
            t.waitsIn = sub;
            t.waitsForAll = value >> 11 == 31;
            t.data.clear();
        } else if (sub > 0) {
            sayStatus(i, on);
            for (int k = 0; k < n; k++) {
                sayData(i, on, t.send[sub][k]);
            }
        } else {
            mode(i, on, n);
        }
    }

    private void mode(int i, int on, int code) {
        Term t = terms[i];
        switch (code) {
            case 1 -> t.syncs++;
            case 4 -> t.shut[1 - on] = true;
            case 5 -> t.shut[1 - on] = false;
            case 8 -> {
                t.shut[0] = false;
                t.shut[1] = false;
            }
            default -> { }
        }
        sayStatus(i, on);
        if (code == 18) {
            sayData(i, on, t.last);
        }
    }

    private int status(int i) {
        return i << 11 | (terms[i].error ? 1 << 10 : 0) | (terms[i].all ? 1 << 4 : 0);
    }

    private void sayStatus(int i, int on) {
        if (!terms[i].shut[on] && transmit(on, false, status(i))) {
            goodStatuses.add(i);
        }
    }

    private void sayData(int i, int on, int value) {
        if (!terms[i].shut[on] && transmit(on, true, value)) {
            goodData.add(value);
        }
    }

    /** No more data words come: those who wait for some take what they have. */
    private void silence(int on) {
        for (int i = 0; i < 6; i++) {
            Term t = terms[i];
            int n = t.waitsFor;
            if (n == 0) {
                continue;
            }
            t.waitsFor = 0;
            if (t.data.size() != n) {
                t.error = true;
                continue;
            }
            t.got[t.waitsIn] = new int[4];
            for (int k = 0; k < n; k++) {
                t.got[t.waitsIn][k] = t.data.get(k);
            }
            if (t.waitsForAll) {
                t.all = true;
            } else {
                sayStatus(i, on);
            }
        }
    }

    // ---- messages

    private boolean attempt(Msg m, int on) {
        goodStatuses.clear();
        goodData.clear();
        int at = m.kind == 3 ? 31 << 11 : m.x << 11;
        int place = m.sub << 5 | m.n;
        switch (m.kind) {
            case 0, 3 -> {
                command(on, at | place);
                for (int k = 0; k < m.n; k++) {
                    transmit(on, true, m.values[k]);
                }
            }
            case 1 -> command(on, at | 1 << 10 | place);
            case 2 -> {
                command(on, m.y << 11 | place);
                command(on, at | 1 << 10 | place);
            }
            default -> command(on, at | 1 << 10 | m.n);
        }
        silence(on);
        switch (m.kind) {
            case 0:
                return goodStatuses.contains(m.x);
            case 1:
                return goodStatuses.contains(m.x) && fetched(m, m.n);
            case 2:
                return goodStatuses.contains(m.x) && goodStatuses.contains(m.y);
            case 3:
                return true;
            default:
                return goodStatuses.contains(m.x) && (m.n != 18 || fetched(m, 1));
        }
    }

    private boolean fetched(Msg m, int n) {
        if (goodData.size() != n) {
            return false;
        }
        for (int k = 0; k < n; k++) {
            m.values[k] = goodData.get(k);
        }
        return true;
    }

    private int outcomeOfDoing(Msg m) {
        int[] on = {bus, bus, 1 - bus};
        for (int i = 0; i < 3; i++) {
            if (attempt(m, on[i])) {
                bus = on[i];
                return i + 1;
            }
        }
        return 4;
    }

    private List<Integer> terminalsOf(Msg m) {
        return m.kind == 3 ? List.of() : m.kind == 2 ? List.of(m.x, m.y) : List.of(m.x);
    }

    private int length(Msg m) {
        int[] words = {m.n + 2, m.n + 2, m.n + 4, m.n + 1, m.n == 18 ? 3 : 2};
        int[] statuses = {1, 1, 2, 0, 1};
        return 3 * (20 * words[m.kind] + 10 * statuses[m.kind]);
    }

    private int[] loads() {
        int[] loads = new int[4];
        for (Msg m : table) {
            int least = Integer.MAX_VALUE;
            for (int phase = 0; phase < m.period; phase++) {
                int greatest = 0;
                for (int f = phase; f < 4; f += m.period) {
                    greatest = Math.max(greatest, loads[f] + length(m));
                }
                if (greatest < least) {
                    least = greatest;
                    m.phase = phase;
                }
            }
            for (int f = m.phase; f < 4; f += m.period) {
                loads[f] += length(m);
            }
        }
        return loads;
    }

    // ---- the face

    boolean live(int t, boolean on) {
        if (t < 0 || t > 5) {
            return false;
        }
        terms[t].live = on;
        return true;
    }

    boolean draft(int t, int s, int k, int v) {
        if (t < 0 || t > 5 || s < 1 || s > 3 || k < 0 || k > 3 || v < 0 || v > 65535) {
            return false;
        }
        terms[t].draft[s][k] = v;
        return true;
    }

    boolean publish(int t, int s) {
        if (t < 0 || t > 5 || s < 1 || s > 3) {
            return false;
        }
        terms[t].send[s] = terms[t].draft[s].clone();
        return true;
    }

    int received(int t, int s, int k) {
        if (t < 0 || t > 5 || s < 1 || s > 3 || k < 0 || k > 3 || terms[t].got[s] == null) {
            return -1;
        }
        return terms[t].got[s][k];
    }

    int terminal(int t, int what) {
        if (t < 0 || t > 5 || what < 0 || what > 6) {
            return -1;
        }
        Term term = terms[t];
        int[] all = {status(t), term.last, term.syncs, term.shut[0] ? 1 : 0, term.shut[1] ? 1 : 0,
            term.bad, term.dropped ? 1 : 0};
        return all[what];
    }

    int message(int kind, int x, int y, int s, int n, int period) {
        if (sealed) {
            return -6;
        }
        boolean good = kind >= 0 && kind <= 4 && List.of(1, 2, 4).contains(period);
        good &= kind == 3 || x >= 0 && x <= 5;
        good &= kind != 2 || y >= 0 && y <= 5 && x != y;
        good &= kind == 4 ? List.of(1, 2, 4, 5, 8, 18).contains(n) : s >= 1 && s <= 3 && n >= 1 && n <= 4;
        if (!good) {
            return -1;
        }
        if (table.size() == 8) {
            return -2;
        }
        Msg m = new Msg();
        m.kind = kind;
        m.x = x;
        m.y = y;
        m.sub = s;
        m.n = n;
        m.period = period;
        table.add(m);
        return table.size() - 1;
    }

    private boolean isMessage(int i) {
        return i >= 0 && i < table.size();
    }

    boolean give(int i, int k, int v) {
        if (!isMessage(i) || k < 0 || k > 3 || v < 0 || v > 65535) {
            return false;
        }
        table.get(i).values[k] = v;
        return true;
    }

    int taken(int i, int k) {
        return !isMessage(i) || k < 0 || k > 3 ? -1 : table.get(i).values[k];
    }

    int seal(int budget) {
        if (sealed) {
            return -6;
        }
        if (budget < 0) {
            return -1;
        }
        int greatest = 0;
        for (int load : loads()) {
            greatest = Math.max(greatest, load);
        }
        if (greatest > budget) {
            return -2;
        }
        sealed = true;
        frame = 0;
        return greatest;
    }

    boolean open() {
        boolean was = sealed;
        sealed = false;
        return was;
    }

    int load(int f) {
        return !sealed || f < 0 || f > 3 ? -1 : loads()[f];
    }

    boolean fault(int on, int kind, int k) {
        if (on < 0 || on > 1 || kind < 0 || kind > 2 || k < 0 || k > 1000) {
            return false;
        }
        faultKind[on] = kind;
        faultAt[on] = k;
        come[on] = 0;
        return true;
    }

    int run() {
        if (!sealed) {
            return -1;
        }
        if (frame == 0) {
            poll();
        }
        List<Msg> done = new ArrayList<>();
        int well = 0;
        for (Msg m : table) {
            boolean here = frame >= m.phase && (frame - m.phase) % m.period == 0;
            if (here && terminalsOf(m).stream().noneMatch(t -> terms[t].dropped)) {
                m.outcome = outcomeOfDoing(m);
                well += m.outcome < 4 ? 1 : 0;
                done.add(m);
            }
        }
        for (int i = 0; i < 6; i++) {
            int t = i;
            List<Msg> own = done.stream().filter(m -> terminalsOf(m).contains(t)).toList();
            if (!own.isEmpty()) {
                terms[t].bad = own.stream().anyMatch(m -> m.outcome == 4) ? terms[t].bad + 1 : 0;
                terms[t].dropped = terms[t].bad >= 3;
            }
        }
        frame = frame == 3 ? 0 : frame + 1;
        return well;
    }

    private void poll() {
        for (int i = 0; i < 6; i++) {
            Msg tellStatus = new Msg();
            tellStatus.kind = 4;
            tellStatus.x = i;
            tellStatus.n = 2;
            if (terms[i].dropped && attempt(tellStatus, bus)) {
                terms[i].dropped = false;
                terms[i].bad = 0;
            }
        }
    }

    int outcome(int i) {
        return isMessage(i) ? table.get(i).outcome : -1;
    }

    int bus() {
        return bus;
    }

    int words() {
        return log.size();
    }

    int heard(int i) {
        return i < 0 || i > 59 || i >= log.size() ? -1 : log.get(log.size() - 1 - i);
    }
}
