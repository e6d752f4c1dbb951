/** Routers on one network that stand in for each other; ../shared/DOC.md says what each call promises. */
public final class StandInLan {
    public static final int NONE = -1;

    private static final int ROUTERS = 5;
    private static final int STATIONS = 16;
    private static final int VIRTUAL_STATION = 9;
    private static final int TO_ALL = 15;

    private static final int PRIORITY = 0;
    private static final int INTERVAL = 1;
    private static final int PREEMPT = 2;
    private static final int GROUP = 3;
    private static final int ADDRESS = 4;
    private static final int VIRTUAL = 5;
    private static final int DELAY = 6;
    private static final int LOSS = 7;
    private static final int WEIGHT = 8;
    private static final int TRACKED = 9;
    private static final int[] LEAST = {1, 1, 0, 1, -2147483648, -2147483648, 1, 0, 0, 0};
    private static final int[] MOST = {255, 4095, 1, 255, 2147483647, 2147483647, 50, 3, 254, 31};

    private static final int LOSES_SENT = 1;
    private static final int LOSES_COMING = 2;

    private static final int OFF = 0;
    private static final int BACKUP = 1;
    private static final int ACTIVE = 2;
    private static final int OWNER_PRIORITY = 255;

    private static final int ADVERTISEMENT = 1;
    private static final int SESSION_PACKET = 2;
    private static final int QUESTION = 3;
    private static final int REPLY = 4;

    private static final int ADMIN = 0;
    private static final int DOWN = 1;
    private static final int INIT = 2;
    private static final int UP = 3;
    private static final int DETECT_EXPIRED = 1;
    private static final int NEIGHBOUR_DOWN = 3;
    private static final int SHUT_BY_HAND = 7;
    private static final int POLL = 32;
    private static final int FINAL = 16;
    private static final int SLOW_TX = 100;
    private static final int MOST_RATE = 1000;
    private static final int MOST_MULTIPLIER = 255;
    private static final int MOST_TOLD = 100000;
    private static final int MOST_DETECT = 10000000;

    private static final int ALL_HOPS = 255;
    private static final int MOST_BYTES = 40;
    private static final int MOST_FRAMES = 60;
    private static final int ADVERTISEMENT_BYTES = 12;
    private static final int SESSION_BYTES = 24;
    private static final int WHOLE_SUM = 65535;
    private static final int MOST_TICKS = 400;

    private final Wire wire;
    private final Router[] routers;
    private final Frame tape;

    public StandInLan() {
        Wire shared = new Wire();
        Router[] all = new Router[ROUTERS];
        for (int r = 0; r < ROUTERS; r++) {
            all[r] = new Router(r, shared);
        }
        wire = shared;
        routers = all;
        tape = new Frame();
    }

    public void set(int r, int what, int v) throws IndexOutOfBoundsException, IllegalArgumentException {
        if (!isRouter(r) || what < 0 || what >= LEAST.length || what >= MOST.length) {
            throw new IndexOutOfBoundsException("no such router or setting");
        }
        if (v < LEAST[what] || v > MOST[what]) {
            throw new IllegalArgumentException("the setting can't have this value");
        }
        routers[r].settings[what] = v;
    }

    public void start(int r) throws IndexOutOfBoundsException, IllegalStateException {
        if (!isRouter(r)) {
            throw new IndexOutOfBoundsException("no such router");
        }
        if (routers[r].state != OFF) {
            throw new IllegalStateException("the router is not OFF");
        }
        routers[r].wake();
    }

    public void stop(int r, boolean crashes) throws IndexOutOfBoundsException, IllegalStateException {
        if (!isRouter(r)) {
            throw new IndexOutOfBoundsException("no such router");
        }
        if (routers[r].state == OFF) {
            throw new IllegalStateException("the router is OFF");
        }
        if (!crashes) {
            routers[r].sayGoodbye();
        }
        routers[r].forgetAll();
    }

    public void open(int r, int s, int tx, int rx, int multiplier)
            throws IndexOutOfBoundsException, IllegalStateException, IllegalArgumentException {
        if (!isRouter(r) || !isRouter(s) || s == r) {
            throw new IndexOutOfBoundsException("no such router, or it is the same one");
        }
        if (routers[r].state == OFF) {
            throw new IllegalStateException("the router is OFF");
        }
        if (!isRate(tx) || !isRate(rx) || multiplier < 1 || multiplier > MOST_MULTIPLIER) {
            throw new IllegalArgumentException("tx, rx or multiplier is out of its range");
        }
        routers[r].sessions[s].begin(tx, rx, multiplier);
    }

    public void change(int r, int s, int tx, int rx)
            throws IndexOutOfBoundsException, IllegalStateException, IllegalArgumentException {
        if (!isRouter(r) || !isRouter(s)) {
            throw new IndexOutOfBoundsException("no such router");
        }
        Session changed = routers[r].sessions[s];
        if (!changed.exists || changed.state == ADMIN) {
            throw new IllegalStateException("no such session, or it is ADMIN");
        }
        boolean shuts = tx == 0 && rx == 0;
        if (!shuts && (!isRate(tx) || !isRate(rx))) {
            throw new IllegalArgumentException("tx or rx is out of its range");
        }
        if (shuts) {
            changed.shut();
        } else {
            changed.wantRates(tx, rx);
        }
    }

    public void ask(int r) throws IndexOutOfBoundsException, IllegalStateException {
        if (!isRouter(r)) {
            throw new IndexOutOfBoundsException("no such router");
        }
        if (routers[r].state == OFF) {
            throw new IllegalStateException("the router is OFF");
        }
        routers[r].sendEmpty(QUESTION, r, TO_ALL);
    }

    public int tick(int n) throws IllegalArgumentException {
        if (n < 1 || n > MOST_TICKS) {
            throw new IllegalArgumentException("not 1 to 400 ticks");
        }
        for (int i = 0; i < n; i++) {
            wire.clock++;
            // What is sent meanwhile is not due yet, so the number of those due is known beforehand.
            int due = wire.countDue();
            for (int k = 0; k < due; k++) {
                handOut(wire.takeDue());
            }
            for (int r = 0; r < ROUTERS; r++) {
                routers[r].runTimers();
            }
        }
        return wire.clock;
    }

    public boolean type(long word, int n) {
        if (n < 1 || n > 8 || tape.length + n > MOST_BYTES) {
            return false;
        }
        for (int i = n - 1; i >= 0; i--) {
            tape.put((int) (word >>> (8 * i)));
        }
        return true;
    }

    public boolean arrive(int r, int kind, int station, int hops, int address)
            throws IndexOutOfBoundsException, IllegalArgumentException, IllegalStateException {
        if (!isRouter(r)) {
            throw new IndexOutOfBoundsException("no such router");
        }
        if ((kind != ADVERTISEMENT && kind != SESSION_PACKET) || station < 0 || station >= TO_ALL
                || hops < 0 || hops > ALL_HOPS) {
            throw new IllegalArgumentException("kind, station or hops is out of its range");
        }
        if (routers[r].state == OFF) {
            throw new IllegalStateException("the router is OFF");
        }
        tape.kind = kind;
        tape.from = station;
        tape.hops = hops;
        tape.address = address;
        boolean heard = routers[r].hear(tape);
        tape.length = 0;
        return heard;
    }

    public int router(int r, int what) {
        return isRouter(r) ? routers[r].tell(what) : NONE;
    }

    public int session(int r, int s, int what) {
        if (!isRouter(r) || !isRouter(s)) {
            return NONE;
        }
        Session asked = routers[r].sessions[s];
        return asked.exists ? asked.tell(what) : NONE;
    }

    public int port(int station) {
        return wire.placeOf(station);
    }

    public int flying() {
        return wire.count;
    }

    public int frame(int k, int i) {
        if (k < 0 || k >= wire.count || k >= MOST_FRAMES) {
            return NONE;
        }
        Frame asked = wire.way[k];
        switch (i) {
            case -1:
                return asked.due - wire.clock;
            case -2:
                return asked.kind;
            case -3:
                return asked.from;
            case -4:
                return asked.to;
            case -5:
                return asked.length;
            case -6:
                return asked.ports;
            default:
                return asked.byteAt(i);
        }
    }

    private static boolean isRouter(int r) {
        return r >= 0 && r < ROUTERS;
    }

    private static boolean isRate(int ticks) {
        return ticks >= 1 && ticks <= MOST_RATE;
    }

    private void handOut(Frame arriving) {
        for (int r = 0; r < ROUTERS; r++) {
            if ((arriving.ports >> r & 1) != 0 && routers[r].minds(arriving)) {
                routers[r].hear(arriving);
            }
        }
    }

    /** What goes from a station to a station; its row of bytes is made once and used for one packet after another. */
    private static final class Frame {
        final int[] bytes;
        int length;
        int kind;
        int from;
        int to;
        int address;
        int hops;
        int ports;
        int due;

        Frame() {
            bytes = new int[MOST_BYTES];
        }

        void put(int value) {
            if (length >= 0 && length < bytes.length) {
                bytes[length] = value & 255;
                length++;
            }
        }

        void putTwo(int value) {
            put(value >>> 8);
            put(value);
        }

        void putFour(int value) {
            put(value >>> 24);
            put(value >>> 16);
            put(value >>> 8);
            put(value);
        }

        int byteAt(int i) {
            return i >= 0 && i < length && i < bytes.length ? bytes[i] : NONE;
        }

        int twoAt(int i) {
            return byteAt(i) << 8 | byteAt(i + 1);
        }

        int fourAt(int i) {
            return byteAt(i) << 24 | byteAt(i + 1) << 16 | byteAt(i + 2) << 8 | byteAt(i + 3);
        }

        /** Sender and receiver make the same sum: with a right CHECK it is 65535. */
        int sum() {
            int sum = (address >>> 16) + (address & 65535) + 57344 + 18 + 112 + 12;
            for (int i = 0; i + 1 < length && i + 1 < bytes.length; i += 2) {
                sum += bytes[i] * 256 + bytes[i + 1];
            }
            // Two rounds are enough for so few numbers.
            for (int round = 0; round < 4 && sum > WHOLE_SUM; round++) {
                sum = sum / 65536 + sum % 65536;
            }
            return sum;
        }

        /** Of a sum without the CHECK what is missing to 65535 is the lesser CHECK of two, too (0 and 65535). */
        void putCheckAt(int i) {
            int check = WHOLE_SUM - sum();
            if (i >= 0 && i + 1 < length && i + 1 < bytes.length) {
                bytes[i] = check >>> 8;
                bytes[i + 1] = check & 255;
            }
        }
    }

    /** The switch, and the frames between it and the routers. */
    private static final class Wire {
        final int[] places;
        final Frame[] way;
        int count;
        int clock;
        // These two are not on the way; they change places with frames there, so that none is ever made anew.
        Frame draft;
        Frame taken;

        Wire() {
            places = new int[STATIONS];
            for (int i = 0; i < STATIONS; i++) {
                places[i] = NONE;
            }
            way = new Frame[MOST_FRAMES];
            for (int k = 0; k < MOST_FRAMES; k++) {
                way[k] = new Frame();
            }
            draft = new Frame();
            taken = new Frame();
        }

        int placeOf(int station) {
            return station >= 0 && station < places.length ? places[station] : NONE;
        }

        int countDue() {
            int due = 0;
            for (int k = 0; k < count && k < way.length; k++) {
                if (way[k].due <= clock) {
                    due++;
                }
            }
            return due;
        }

        /** A frame that arrives leaves the way first, so that an answer to it finds room. */
        Frame takeDue() {
            int k = 0;
            while (k < count && k < way.length && way[k].due > clock) {
                k++;
            }
            if (k < count && count <= way.length) {
                Frame due = way[k];
                for (int i = k + 1; i < count; i++) {
                    way[i - 1] = way[i];
                }
                count--;
                way[count] = taken;
                taken = due;
            }
            return taken;
        }

        Frame newDraft(int kind, int from, int to, int address) {
            draft.length = 0;
            draft.kind = kind;
            draft.from = from;
            draft.to = to;
            draft.address = address;
            draft.hops = ALL_HOPS;
            return draft;
        }

        /** The draft comes to the switch by a router's port; the switch learns from it even if there is no room. */
        void carryDraft(int fromPort, int delay) {
            if (draft.from >= 0 && draft.from < places.length) {
                places[draft.from] = fromPort;
            }
            if (count < 0 || count >= way.length) {
                return;
            }
            boolean isKnown = draft.to >= 0 && draft.to < places.length && places[draft.to] != NONE;
            int ports = isKnown ? 1 << places[draft.to] : (1 << ROUTERS) - 1;
            draft.ports = ports & ~(1 << fromPort);
            draft.due = clock + delay;
            Frame free = way[count];
            way[count] = draft;
            count++;
            draft = free;
        }
    }

    /** What one router knows of its session with another one. */
    private static final class Session {
        final int number;
        final int other;
        boolean exists;
        int state;
        int remoteState;
        int remoteNumber;
        int diagnosis;
        int tx;
        int rx;
        int multiplier;
        int itsRx;
        int itsTx;
        int itsMultiplier;
        boolean polls;
        int txInUse;
        int rxInUse;
        int sendTimer;
        int detectTimer;
        int timesUp;

        Session(int number, int other) {
            this.number = number;
            this.other = other;
        }

        void begin(int newTx, int newRx, int newMultiplier) {
            exists = true;
            state = DOWN;
            remoteState = DOWN;
            remoteNumber = 0;
            diagnosis = 0;
            tx = newTx;
            rx = newRx;
            multiplier = newMultiplier;
            itsRx = 1;
            itsTx = 0;
            itsMultiplier = 0;
            polls = false;
            useRates();
            detectTimer = 0;
            timesUp = 0;
            sendTimer = sendPause();
        }

        void wantRates(int newTx, int newRx) {
            tx = newTx;
            rx = newRx;
            if (state != UP) {
                useRates();
            } else {
                polls = true;
                txInUse = Math.min(txInUse, tx);
                rxInUse = Math.max(rxInUse, rx);
            }
            hurrySend();
        }

        void shut() {
            state = ADMIN;
            diagnosis = SHUT_BY_HAND;
            polls = false;
        }

        private void useRates() {
            txInUse = tx;
            rxInUse = rx;
        }

        int slowed(int pause) {
            return state == UP ? pause : Math.max(pause, SLOW_TX);
        }

        int sendPause() {
            return itsRx == 0 ? 0 : Math.max(slowed(txInUse), itsRx);
        }

        /** A new pause may bring the next packet nearer, but never puts it off. */
        void hurrySend() {
            int pause = sendPause();
            if (pause == 0 || sendTimer == 0 || sendTimer > pause) {
                sendTimer = pause;
            }
        }

        /** True if ITS RX or the STATE changed by what the packet tells. */
        boolean learn(Frame packet) {
            int oldRx = itsRx;
            int oldState = state;
            int flags = packet.byteAt(1);
            remoteNumber = told(packet.fourAt(4));
            remoteState = flags / 64;
            itsMultiplier = packet.byteAt(2);
            itsTx = told(packet.fourAt(12));
            itsRx = told(packet.fourAt(16));
            if (polls && (flags & FINAL) != 0) {
                polls = false;
                useRates();
            }
            detectTimer = Math.min(MOST_DETECT, itsMultiplier * Math.max(rxInUse, itsTx));
            follow();
            return itsRx != oldRx || state != oldState;
        }

        private static int told(int number) {
            return number < 0 || number > MOST_TOLD ? MOST_TOLD : number;
        }

        private void follow() {
            if (state == ADMIN) {
                return;
            }
            if (remoteState == ADMIN) {
                fall(NEIGHBOUR_DOWN);
            } else if (state == DOWN) {
                if (remoteState == DOWN) {
                    state = INIT;
                } else if (remoteState == INIT) {
                    comeUp();
                }
            } else if (state == INIT) {
                if (remoteState != DOWN) {
                    comeUp();
                }
            } else if (remoteState == DOWN) {
                fall(NEIGHBOUR_DOWN);
            }
        }

        private void comeUp() {
            state = UP;
            timesUp++;
        }

        private void fall(int why) {
            if (state == INIT || state == UP) {
                diagnosis = why;
                state = DOWN;
            }
        }

        void runDetect() {
            if (detectTimer > 0) {
                detectTimer--;
                if (detectTimer == 0) {
                    remoteNumber = 0;
                    fall(DETECT_EXPIRED);
                }
            }
        }

        boolean sendFires() {
            if (sendTimer > 0) {
                sendTimer--;
                return sendTimer == 0;
            }
            return false;
        }

        int tell(int what) {
            switch (what) {
                case 0:
                    return state;
                case 1:
                    return remoteState;
                case 2:
                    return remoteNumber;
                case 3:
                    return diagnosis;
                case 4:
                    return sendTimer;
                case 5:
                    return detectTimer;
                case 6:
                    return txInUse;
                case 7:
                    return rxInUse;
                case 8:
                    return polls ? 1 : 0;
                case 9:
                    return itsRx;
                case 10:
                    return itsTx;
                case 11:
                    return timesUp;
                default:
                    return NONE;
            }
        }
    }

    /** One router: its settings, its part in standing in, its sessions. */
    private static final class Router {
        final int number;
        final Wire wire;
        final int[] settings;
        final Session[] sessions;
        int state;
        int timer;
        int known;
        int timesActive;
        int taken;
        int sent;
        int noted;

        Router(int number, Wire wire) {
            this.number = number;
            this.wire = wire;
            settings = new int[] {100, 100, 1, 1, 167772160 + number, 167772400, 1, 0, 0, 0};
            sessions = new Session[ROUTERS];
            for (int s = 0; s < ROUTERS; s++) {
                sessions[s] = new Session(16 * number + s + 1, s);
            }
        }

        int tell(int what) {
            switch (what) {
                case 0:
                    return state;
                case 1:
                    return timer;
                case 2:
                    return state == OFF ? 0 : weighed();
                case 3:
                    return known;
                case 4:
                    return timesActive;
                case 5:
                    return taken;
                case 6:
                    return sent;
                case 7:
                    return noted;
                default:
                    return NONE;
            }
        }

        void wake() {
            known = settings[INTERVAL];
            if (weighed() == OWNER_PRIORITY) {
                becomeActive();
            } else {
                becomeBackup();
            }
        }

        void sayGoodbye() {
            if (state == ACTIVE) {
                advertise(0);
            }
        }

        void forgetAll() {
            state = OFF;
            timer = 0;
            known = 0;
            for (int s = 0; s < ROUTERS; s++) {
                sessions[s].exists = false;
            }
        }

        private int weighed() {
            int priority = settings[PRIORITY];
            if (priority == OWNER_PRIORITY) {
                return priority;
            }
            for (int s = 0; s < ROUTERS; s++) {
                if ((settings[TRACKED] >> s & 1) != 0 && sessions[s].exists && sessions[s].state != UP) {
                    priority -= settings[WEIGHT];
                }
            }
            return priority < 1 ? 1 : priority;
        }

        private int skew() {
            return (256 - weighed()) * known / 256;
        }

        private void becomeActive() {
            advertise(weighed());
            sendEmpty(QUESTION, VIRTUAL_STATION, TO_ALL);
            timer = settings[INTERVAL];
            state = ACTIVE;
            timesActive++;
        }

        private void becomeBackup() {
            timer = 3 * known + skew();
            state = BACKUP;
        }

        private void advertise(int priority) {
            Frame f = wire.newDraft(ADVERTISEMENT, VIRTUAL_STATION, TO_ALL, settings[ADDRESS]);
            f.put(49);
            f.put(settings[GROUP]);
            f.put(priority);
            f.put(1);
            f.putTwo(settings[INTERVAL]);
            f.putTwo(0);
            f.putFour(settings[VIRTUAL]);
            f.putCheckAt(6);
            sendDraft();
        }

        void sendEmpty(int kind, int from, int to) {
            wire.newDraft(kind, from, to, settings[ADDRESS]);
            sendDraft();
        }

        private void sendPacket(Session x, int flag) {
            Frame f = wire.newDraft(SESSION_PACKET, number, x.other, settings[ADDRESS]);
            f.put(32 + x.diagnosis);
            f.put(64 * x.state + flag);
            f.put(x.multiplier);
            f.put(SESSION_BYTES);
            f.putFour(x.number);
            f.putFour(x.remoteNumber);
            f.putFour(x.slowed(x.tx));
            f.putFour(x.rx);
            f.putFour(0);
            sendDraft();
        }

        private void sendDraft() {
            sent++;
            if ((settings[LOSS] & LOSES_SENT) == 0) {
                wire.carryDraft(number, settings[DELAY]);
            }
        }

        boolean minds(Frame f) {
            if (state == OFF || (settings[LOSS] & LOSES_COMING) != 0) {
                return false;
            }
            return f.to == TO_ALL || f.to == number || (f.to == VIRTUAL_STATION && state == ACTIVE);
        }

        /** True if an advertisement was TAKEN, or if a packet came to a session. */
        boolean hear(Frame f) {
            switch (f.kind) {
                case ADVERTISEMENT:
                    if (!isForUs(f)) {
                        return false;
                    }
                    taken++;
                    if (state == ACTIVE) {
                        hearAsActive(f);
                    } else {
                        hearAsBackup(f);
                    }
                    return true;
                case SESSION_PACKET:
                    return hearPacket(f);
                case QUESTION:
                    if (state == ACTIVE && f.from != VIRTUAL_STATION) {
                        sendEmpty(REPLY, VIRTUAL_STATION, f.from);
                    }
                    return false;
                case REPLY:
                    noted = f.address;
                    return false;
                default:
                    return false;
            }
        }

        private boolean isForUs(Frame f) {
            return f.hops == ALL_HOPS && f.length == ADVERTISEMENT_BYTES
                    && f.byteAt(0) == 49 && f.byteAt(1) == settings[GROUP] && f.byteAt(3) == 1
                    && f.fourAt(8) == settings[VIRTUAL] && f.sum() == WHOLE_SUM
                    && settings[PRIORITY] != OWNER_PRIORITY;
        }

        private void hearAsBackup(Frame f) {
            int priority = f.byteAt(2);
            if (priority == 0) {
                timer = Math.max(1, skew());
            } else if (settings[PREEMPT] == 0 || priority >= weighed()) {
                known = intervalIn(f);
                becomeBackup();
            }
        }

        private void hearAsActive(Frame f) {
            int priority = f.byteAt(2);
            int own = weighed();
            if (priority == 0) {
                advertise(own);
                timer = settings[INTERVAL];
            } else if (priority > own || (priority == own && isAbove(f.address, settings[ADDRESS]))) {
                known = intervalIn(f);
                becomeBackup();
            } else {
                advertise(own);
            }
        }

        private static int intervalIn(Frame f) {
            return Math.max(1, f.twoAt(4) & 4095);
        }

        private static boolean isAbove(int address, int than) {
            return (address & 4294967295L) > (than & 4294967295L);
        }

        private boolean hearPacket(Frame f) {
            Session meant = isWhole(f) ? sessionMeant(f) : null;
            if (meant == null) {
                return false;
            }
            boolean changed = meant.learn(f);
            if ((f.byteAt(1) & POLL) != 0) {
                sendPacket(meant, FINAL);
            }
            if (changed) {
                meant.hurrySend();
            }
            return true;
        }

        private static boolean isWhole(Frame f) {
            return f.hops == ALL_HOPS && f.length >= SESSION_BYTES
                    && f.byteAt(0) >= 32 && f.byteAt(0) <= 63
                    && f.byteAt(3) >= SESSION_BYTES && f.byteAt(3) <= f.length
                    && f.byteAt(2) != 0 && (f.byteAt(1) & 5) == 0 && f.fourAt(4) != 0;
        }

        private Session sessionMeant(Frame f) {
            int meant = f.fourAt(8);
            boolean mayBeFirst = meant == 0 && f.byteAt(1) / 64 <= DOWN;
            for (int s = 0; s < ROUTERS; s++) {
                Session x = sessions[s];
                if (x.exists && (x.number == meant || (mayBeFirst && s == f.from))) {
                    return x;
                }
            }
            return null;
        }

        void runTimers() {
            if (state == OFF) {
                return;
            }
            timer--;
            if (timer <= 0) {
                timerFires();
            }
            for (int s = 0; s < ROUTERS; s++) {
                if (sessions[s].exists) {
                    runSession(sessions[s]);
                }
            }
        }

        private void timerFires() {
            if (state == BACKUP) {
                becomeActive();
            } else {
                advertise(weighed());
                timer = settings[INTERVAL];
            }
        }

        private void runSession(Session x) {
            x.runDetect();
            if (x.sendFires()) {
                sendPacket(x, x.polls ? POLL : 0);
                x.sendTimer = x.sendPause();
            }
        }
    }
}
