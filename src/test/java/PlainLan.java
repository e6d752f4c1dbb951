import java.util.ArrayList;
import java.util.Arrays;
import java.util.List;
import java.util.Map;
import java.util.TreeMap;

/**
 * The document told a second time, in another form than the class has: timers are times of firing and do not count
 * down, numbers have no sign and are long, packets are lists, and everything is made anew. Slow, but easy to hold
 * against the document's words. The exceptions are told as texts, so that both can be compared.
 */
final class PlainLan implements Whole.Asked {
    private enum Role { OFF, BACKUP, ACTIVE }

    private enum State { ADMIN, DOWN, INIT, UP }

    private record Flight(
            long due, int kind, int from, int to, long address, int hops, List<Integer> packet, int ports) {
    }

    private static final class Talk {
        final int own;
        State state = State.DOWN;
        State remote = State.DOWN;
        long remoteNumber;
        int diagnosis;
        long tx;
        long rx;
        final int multiplier;
        long itsRx = 1;
        long itsTx;
        long itsMultiplier;
        boolean polls;
        long txUsed;
        long rxUsed;
        Long sendAt;
        Long detectAt;
        int ups;

        Talk(int own, int tx, int rx, int multiplier) {
            this.own = own;
            this.tx = tx;
            this.rx = rx;
            this.txUsed = tx;
            this.rxUsed = rx;
            this.multiplier = multiplier;
        }
    }

    private static final class Node {
        final long[] settings;
        Role role = Role.OFF;
        long fires;
        long known;
        int actives;
        int takes;
        int sends;
        long noted;
        final Map<Integer, Talk> talks = new TreeMap<>();

        Node(int r) {
            settings = new long[] {100, 100, 1, 1, 167772160 + r, 167772400, 1, 0, 0, 0};
        }
    }

    private final Node[] nodes = {new Node(0), new Node(1), new Node(2), new Node(3), new Node(4)};
    private final Map<Integer, Integer> table = new TreeMap<>();
    private final List<Flight> flights = new ArrayList<>();
    private final List<Integer> tape = new ArrayList<>();
    private long clock;
    /** How many rounds of timers are over: while frames arrive, that of this tick is still to come. */
    private long rounds;

    // ---- what the switch and the frames do ----

    private void send(int r, int kind, int from, int to, List<Integer> packet) {
        Node n = nodes[r];
        n.sends++;
        if (n.settings[7] == 1 || n.settings[7] == 3) {
            return;
        }
        table.put(from, r);
        int ports = 0;
        if (to != 15 && table.containsKey(to)) {
            int port = table.get(to);
            ports = port == r ? 0 : 1 << port;
        } else {
            for (int p = 0; p < 5; p++) {
                ports += p == r ? 0 : 1 << p;
            }
        }
        if (flights.size() < 60) {
            flights.add(new Flight(clock + n.settings[6], kind, from, to, n.settings[4], 255, packet, ports));
        }
    }

    private void oneTick() {
        clock++;
        for (int k = 0; k < flights.size();) {
            if (flights.get(k).due() != clock) {
                k++;
                continue;
            }
            Flight f = flights.remove(k);
            for (int r = 0; r < 5; r++) {
                Node n = nodes[r];
                boolean comes = (f.ports() & 1 << r) != 0 && n.role != Role.OFF && n.settings[7] < 2;
                boolean minded = f.to() == 15 || f.to() == r || f.to() == 9 && n.role == Role.ACTIVE;
                if (comes && minded) {
                    comesTo(r, f);
                }
            }
        }
        rounds = clock;
        for (int r = 0; r < 5; r++) {
            if (nodes[r].role != Role.OFF) {
                timers(r);
            }
        }
    }

    private void timers(int r) {
        Node n = nodes[r];
        if (n.fires == rounds) {
            if (n.role == Role.BACKUP) {
                toBeActive(r);
            } else {
                advertise(r, weighed(n));
                n.fires = in(n.settings[1]);
            }
        }
        for (Map.Entry<Integer, Talk> e : n.talks.entrySet()) {
            Talk t = e.getValue();
            if (t.detectAt != null && t.detectAt == rounds) {
                t.detectAt = null;
                t.remoteNumber = 0;
                if (t.state == State.INIT || t.state == State.UP) {
                    t.diagnosis = 1;
                    t.state = State.DOWN;
                }
            }
            if (t.sendAt != null && t.sendAt == rounds) {
                packetGoes(r, e.getKey(), t.polls, false);
                t.sendAt = sendIn(t) == 0 ? null : Long.valueOf(in(sendIn(t)));
            }
        }
    }

    /** The time at which a timer fires that is set to so many ticks now. */
    private long in(long ticks) {
        return rounds + (ticks == 0 ? 1 : ticks);
    }

    private boolean comesTo(int r, Flight f) {
        Node n = nodes[r];
        if (f.kind() == 1) {
            return advertisementArrives(r, f);
        }
        if (f.kind() == 2) {
            return packetArrives(r, f);
        }
        if (f.kind() == 3 && f.from() != 9 && n.role == Role.ACTIVE) {
            send(r, 4, 9, f.from(), List.of());
        }
        if (f.kind() == 4) {
            n.noted = f.address();
        }
        return false;
    }

    // ---- STANDING IN ----

    private static long weighed(Node n) {
        if (n.settings[0] == 255) {
            return 255;
        }
        long bad = n.talks.entrySet().stream()
            .filter(e -> (n.settings[9] & 1 << e.getKey()) != 0 && e.getValue().state != State.UP).count();
        return Math.max(1, n.settings[0] - n.settings[8] * bad);
    }

    private static long skew(Node n) {
        return Math.floorDiv((256 - weighed(n)) * n.known, 256L);
    }

    private static void put(List<Integer> row, long value, int bytes) {
        for (int i = bytes - 1; i >= 0; i--) {
            row.add((int) (value >> 8 * i & 255));
        }
    }

    private static long read(List<Integer> row, int at, int bytes) {
        long value = 0;
        for (int b : row.subList(at, at + bytes)) {
            value = value * 256 + b;
        }
        return value;
    }

    private static long sum(long address, List<Integer> packet) {
        long sum = address / 65536 + address % 65536 + 57344 + 18 + 112 + 12;
        for (int i = 0; i < 6; i++) {
            sum += read(packet, 2 * i, 2);
        }
        while (sum > 65535) {
            sum = sum / 65536 + sum % 65536;
        }
        return sum;
    }

    static List<Integer> advertisement(long group, long priority, long interval, long virtual, long address) {
        List<Integer> row = new ArrayList<>(List.of(49, (int) group, (int) priority, 1));
        put(row, interval, 2);
        put(row, 0, 2);
        put(row, virtual, 4);
        // What is missing to 65535 is a CHECK; if nothing is missing, 0 and 65535 are, and 0 is the lesser one.
        for (long check : new long[] {0, 65535 - sum(address, row)}) {
            row.set(6, (int) (check / 256));
            row.set(7, (int) (check % 256));
            if (sum(address, row) == 65535) {
                return row;
            }
        }
        throw new AssertionError("there is no CHECK");
    }

    private void advertise(int r, long priority) {
        long[] s = nodes[r].settings;
        send(r, 1, 9, 15, advertisement(s[3], priority, s[1], s[5], s[4]));
    }

    private void toBeActive(int r) {
        Node n = nodes[r];
        advertise(r, weighed(n));
        send(r, 3, 9, 15, List.of());
        n.fires = in(n.settings[1]);
        n.role = Role.ACTIVE;
        n.actives++;
    }

    private void toBeBackup(Node n) {
        n.fires = in(3 * n.known + skew(n));
        n.role = Role.BACKUP;
    }

    private boolean advertisementArrives(int r, Flight f) {
        Node n = nodes[r];
        List<Integer> p = f.packet();
        if (f.hops() != 255 || p.size() != 12 || p.get(0) != 49 || p.get(1) != n.settings[3]
                || read(p, 8, 4) != n.settings[5] || p.get(3) != 1 || sum(f.address(), p) != 65535
                || n.settings[0] == 255) {
            return false;
        }
        n.takes++;
        long told = read(p, 4, 2) % 4096 == 0 ? 1 : read(p, 4, 2) % 4096;
        int priority = p.get(2);
        if (n.role == Role.BACKUP && priority == 0) {
            n.fires = in(skew(n));
        } else if (n.role == Role.BACKUP) {
            if (n.settings[2] == 0 || !(priority < weighed(n))) {
                n.known = told;
                n.fires = in(3 * n.known + skew(n));
            }
        } else if (priority == 0) {
            advertise(r, weighed(n));
            n.fires = in(n.settings[1]);
        } else if (priority > weighed(n) || priority == weighed(n) && f.address() > n.settings[4]) {
            n.known = told;
            toBeBackup(n);
        } else {
            advertise(r, weighed(n));
        }
        return true;
    }

    // ---- SESSIONS ----

    /** What SEND is set to; 0 is off. */
    private static long sendIn(Talk t) {
        if (t.itsRx == 0) {
            return 0;
        }
        long pause = t.state != State.UP && t.txUsed < 100 ? 100 : t.txUsed;
        return pause > t.itsRx ? pause : t.itsRx;
    }

    private void setSendUnlessLessIsLeft(Talk t) {
        long ticks = sendIn(t);
        if (ticks == 0) {
            t.sendAt = null;
        } else if (t.sendAt == null || !(t.sendAt < in(ticks))) {
            t.sendAt = in(ticks);
        }
    }

    private void packetGoes(int r, int s, boolean poll, boolean last) {
        Talk t = nodes[r].talks.get(s);
        List<Integer> row = new ArrayList<>();
        row.add(32 + t.diagnosis);
        row.add(64 * t.state.ordinal() + (poll ? 32 : 0) + (last ? 16 : 0));
        row.add(t.multiplier);
        row.add(24);
        put(row, t.own, 4);
        put(row, t.remoteNumber, 4);
        put(row, t.state != State.UP && t.tx < 100 ? 100 : t.tx, 4);
        put(row, t.rx, 4);
        put(row, 0, 4);
        send(r, 2, r, s, row);
    }

    private static Integer meant(Node n, Flight f) {
        List<Integer> p = f.packet();
        if (f.hops() != 255 || p.size() < 24 || p.get(0) / 32 != 1 || p.get(3) < 24 || p.get(3) > p.size()
                || p.get(2) == 0 || (p.get(1) & 4) != 0 || (p.get(1) & 1) != 0 || read(p, 4, 4) == 0) {
            return null;
        }
        long number = read(p, 8, 4);
        for (Map.Entry<Integer, Talk> e : n.talks.entrySet()) {
            if (e.getValue().own == number) {
                return e.getKey();
            }
        }
        boolean early = p.get(1) / 64 == 0 || p.get(1) / 64 == 1;
        return number == 0 && early && n.talks.containsKey(f.from()) ? f.from() : null;
    }

    private static long capped(long told) {
        return told > 100000 ? 100000 : told;
    }

    private boolean packetArrives(int r, Flight f) {
        Integer s = meant(nodes[r], f);
        if (s == null) {
            return false;
        }
        List<Integer> p = f.packet();
        Talk t = nodes[r].talks.get(s);
        State before = t.state;
        long rxBefore = t.itsRx;
        t.remoteNumber = capped(read(p, 4, 4));
        t.remote = State.values()[p.get(1) / 64];
        t.itsMultiplier = p.get(2);
        t.itsTx = capped(read(p, 12, 4));
        t.itsRx = capped(read(p, 16, 4));
        if (t.polls && (p.get(1) & 16) != 0) {
            t.polls = false;
            t.txUsed = t.tx;
            t.rxUsed = t.rx;
        }
        t.detectAt = in(Math.min(10000000, t.itsMultiplier * Math.max(t.rxUsed, t.itsTx)));
        t.state = next(t.state, t.remote);
        if (before != State.DOWN && t.state == State.DOWN) {
            t.diagnosis = 3;
        }
        if (before != State.UP && t.state == State.UP) {
            t.ups++;
        }
        if ((p.get(1) & 32) != 0) {
            packetGoes(r, s, false, true);
        }
        if (t.itsRx != rxBefore || t.state != before) {
            setSendUnlessLessIsLeft(t);
        }
        return true;
    }

    /** The states as a table: rows are the STATE, columns what is told, both ADMIN, DOWN, INIT, UP. */
    private static State next(State state, State told) {
        String row = new String[] {"AAAA", "DIUD", "DIUU", "DDUU"}[state.ordinal()];
        char letter = row.charAt(told.ordinal());
        return Arrays.stream(State.values()).filter(x -> x.name().charAt(0) == letter).findFirst().orElseThrow();
    }

    // ---- the calls; each tells its answer, or the exception's name ----

    long setting(int r, int what) {
        return nodes[r].settings[what];
    }

    private static boolean known(int r) {
        return r >= 0 && r <= 4;
    }

    private static boolean within(long v, long least, long most) {
        return v >= least && v <= most;
    }

    String set(int r, int what, int v) {
        if (!known(r) || !within(what, 0, 9)) {
            return "IndexOutOfBoundsException";
        }
        boolean fits = switch (what) {
            case 0, 3 -> within(v, 1, 255);
            case 1 -> within(v, 1, 4095);
            case 2 -> within(v, 0, 1);
            case 6 -> within(v, 1, 50);
            case 7 -> within(v, 0, 3);
            case 8 -> within(v, 0, 254);
            case 9 -> within(v, 0, 31);
            default -> true;
        };
        if (!fits) {
            return "IllegalArgumentException";
        }
        nodes[r].settings[what] = Integer.toUnsignedLong(v);
        return "";
    }

    String start(int r) {
        if (!known(r)) {
            return "IndexOutOfBoundsException";
        }
        Node n = nodes[r];
        if (n.role != Role.OFF) {
            return "IllegalStateException";
        }
        n.known = n.settings[1];
        if (weighed(n) == 255) {
            toBeActive(r);
        } else {
            toBeBackup(n);
        }
        return "";
    }

    String stop(int r, boolean crashes) {
        if (!known(r)) {
            return "IndexOutOfBoundsException";
        }
        Node n = nodes[r];
        if (n.role == Role.OFF) {
            return "IllegalStateException";
        }
        if (!crashes && n.role == Role.ACTIVE) {
            advertise(r, 0);
        }
        n.role = Role.OFF;
        n.talks.clear();
        return "";
    }

    String open(int r, int s, int tx, int rx, int multiplier) {
        if (!known(r) || !known(s) || r == s) {
            return "IndexOutOfBoundsException";
        }
        if (nodes[r].role == Role.OFF) {
            return "IllegalStateException";
        }
        if (!within(tx, 1, 1000) || !within(rx, 1, 1000) || !within(multiplier, 1, 255)) {
            return "IllegalArgumentException";
        }
        Talk t = new Talk(16 * r + s + 1, tx, rx, multiplier);
        t.sendAt = in(Math.max(100, tx));
        nodes[r].talks.put(s, t);
        return "";
    }

    String change(int r, int s, int tx, int rx) {
        if (!known(r) || !known(s)) {
            return "IndexOutOfBoundsException";
        }
        Talk t = nodes[r].talks.get(s);
        if (t == null || t.state == State.ADMIN) {
            return "IllegalStateException";
        }
        if (tx == 0 && rx == 0) {
            t.state = State.ADMIN;
            t.diagnosis = 7;
            t.polls = false;
            return "";
        }
        if (!within(tx, 1, 1000) || !within(rx, 1, 1000)) {
            return "IllegalArgumentException";
        }
        t.tx = tx;
        t.rx = rx;
        boolean up = t.state == State.UP;
        t.polls = t.polls || up;
        t.txUsed = !up || tx <= t.txUsed ? tx : t.txUsed;
        t.rxUsed = !up || rx >= t.rxUsed ? rx : t.rxUsed;
        setSendUnlessLessIsLeft(t);
        return "";
    }

    String ask(int r) {
        if (!known(r)) {
            return "IndexOutOfBoundsException";
        }
        if (nodes[r].role == Role.OFF) {
            return "IllegalStateException";
        }
        send(r, 3, r, 15, List.of());
        return "";
    }

    String tick(int n) {
        if (!within(n, 1, 400)) {
            return "IllegalArgumentException";
        }
        for (int i = 0; i < n; i++) {
            oneTick();
        }
        return "" + clock;
    }

    String type(long word, int n) {
        if (!within(n, 1, 8) || tape.size() + n > 40) {
            return "false";
        }
        put(tape, word, n);
        return "true";
    }

    String arrive(int r, int kind, int station, int hops, int address) {
        if (!known(r)) {
            return "IndexOutOfBoundsException";
        }
        if (!within(kind, 1, 2) || !within(station, 0, 14) || !within(hops, 0, 255)) {
            return "IllegalArgumentException";
        }
        if (nodes[r].role == Role.OFF) {
            return "IllegalStateException";
        }
        List<Integer> packet = new ArrayList<>(tape);
        tape.clear();
        long sender = Integer.toUnsignedLong(address);
        return "" + comesTo(r, new Flight(clock, kind, station, 15, sender, hops, packet, 1 << r));
    }

    @Override
    public int router(int r, int what) {
        if (!known(r)) {
            return -1;
        }
        Node n = nodes[r];
        boolean off = n.role == Role.OFF;
        return switch (what) {
            case 0 -> n.role.ordinal();
            case 1 -> off ? 0 : (int) (n.fires - rounds);
            case 2 -> off ? 0 : (int) weighed(n);
            case 3 -> off ? 0 : (int) n.known;
            case 4 -> n.actives;
            case 5 -> n.takes;
            case 6 -> n.sends;
            case 7 -> (int) n.noted;
            default -> -1;
        };
    }

    @Override
    public int session(int r, int s, int what) {
        Talk t = known(r) ? nodes[r].talks.get(s) : null;
        if (t == null) {
            return -1;
        }
        return switch (what) {
            case 0 -> t.state.ordinal();
            case 1 -> t.remote.ordinal();
            case 2 -> (int) t.remoteNumber;
            case 3 -> t.diagnosis;
            case 4 -> t.sendAt == null ? 0 : (int) (t.sendAt - rounds);
            case 5 -> t.detectAt == null ? 0 : (int) (t.detectAt - rounds);
            case 6 -> (int) t.txUsed;
            case 7 -> (int) t.rxUsed;
            case 8 -> t.polls ? 1 : 0;
            case 9 -> (int) t.itsRx;
            case 10 -> (int) t.itsTx;
            case 11 -> t.ups;
            default -> -1;
        };
    }

    @Override
    public int port(int station) {
        return table.getOrDefault(station, -1);
    }

    @Override
    public int flying() {
        return flights.size();
    }

    @Override
    public int frame(int k, int i) {
        if (!within(k, 0, flights.size() - 1)) {
            return -1;
        }
        Flight f = flights.get(k);
        return switch (i) {
            case -1 -> (int) (f.due() - clock);
            case -2 -> f.kind();
            case -3 -> f.from();
            case -4 -> f.to();
            case -5 -> f.packet().size();
            case -6 -> f.ports();
            default -> within(i, 0, f.packet().size() - 1) ? f.packet().get(i) : -1;
        };
    }
}
