/** The boundary cases in the document's parts STANDING IN and ASKING. */
public final class EdgesOfStandingInTest {
    private static final Due DUE = new Due("EdgesOfStandingInTest");
    private static final int OWN = 167772160;

    public static void main(String[] args) {
        weighed255IsNotWeighed();
        weighedIsAtLeastOne();
        onlySessionsThatAreNotUpWeigh();
        skewIsDownwards();
        downIsThreeIntervalsAndSkew();
        ofTwoChecksTheLesserOneIsSent();
        sumsAreFoldedAsLongAsNeeded();
        advertisementsHaveTwelveBytes();
        announcementsHaveNoPacket();
        startedWith255IsActive();
        firedTimersGoOn();
        takenOnlyWithAllHops();
        takenOnlyWithTwelveBytes();
        takenOnlyWithTheRightBytes();
        takenOnlyWithTheRightSum();
        notTakenWithPriority255();
        twelveBitsOfTheIntervalCount();
        backupHearsZero();
        backupHearsLesserSameAndGreater();
        activeHearsZero();
        activeHearsLesserSameAndGreater();
        activeComparesAddressesWithoutSigns();
        stoppedOnesSayGoodbyeIfActive();
        crashedOnesForget();
        sessionsThatAreGoneDoNothing();
        askingHasNoPacket();
        announcementsAreNotAnswered();
        backupsDoNotAnswer();
        answersGoToTheOneWhoAsked();
        theAddressIsNoted();
        DUE.end();
    }

    private static StandInLan backup(int priority, int interval) {
        StandInLan x = new StandInLan();
        x.set(0, 0, priority);
        x.set(0, 1, interval);
        x.start(0);
        return x;
    }

    /** Router 0, ACTIVE with PRIORITY 100 since 10 ticks. */
    private static StandInLan active() {
        StandInLan x = backup(100, 100);
        x.tick(370);
        return x;
    }

    private static void weighed255IsNotWeighed() {
        DUE.sentence("Its WEIGHED priority is 255, if PRIORITY is");
        for (int priority = 253; priority < 256; priority++) {
            StandInLan x = new StandInLan();
            x.set(0, 0, priority);
            x.set(0, 8, 254);
            x.set(0, 9, 31);
            x.start(0);
            x.open(0, 1, 1, 1, 1);
            DUE.is("WEIGHED of " + priority, x.router(0, 2), priority == 255 ? 255 : 1);
        }
    }

    private static void weighedIsAtLeastOne() {
        DUE.sentence("else PRIORITY less WEIGHT for each .. but at least 1");
        int[][] rows = {{100, 98, 1, 2}, {100, 99, 1, 1}, {100, 100, 1, 1}, {100, 101, 1, 1}, {1, 0, 4, 1}, {1, 1, 1, 1},
            {254, 254, 1, 1}, {254, 253, 1, 1}, {254, 252, 1, 2}, {254, 254, 4, 1}, {200, 50, 3, 50}, {200, 50, 4, 1},
            {201, 50, 4, 1}, {202, 50, 4, 2}};
        for (int[] row : rows) {
            StandInLan x = new StandInLan();
            x.set(0, 0, row[0]);
            x.set(0, 8, row[1]);
            x.set(0, 9, 31);
            x.start(0);
            for (int s = 1; s <= row[2]; s++) {
                x.open(0, s, 1, 1, 1);
            }
            DUE.is("WEIGHED of " + row[0] + " less " + row[2] + " * " + row[1], x.router(0, 2), row[3]);
        }
    }

    private static void onlySessionsThatAreNotUpWeigh() {
        DUE.sentence("of its TRACKED sessions that it has and that is not UP");
        for (int state = 0; state < 4; state++) {
            StandInLan x = Tapes.withSession(state, 10, 10, 3);
            x.set(0, 8, 30);
            x.set(0, 9, 31);
            DUE.is("WEIGHED in STATE " + state, x.router(0, 2), state == 3 ? 100 : 70);
            x.set(0, 9, 29);
            DUE.is("WEIGHED, not TRACKED, in STATE " + state, x.router(0, 2), 100);
        }
        StandInLan x = new StandInLan();
        x.set(0, 8, 30);
        x.set(0, 9, 31);
        x.start(0);
        DUE.is("WEIGHED without sessions", x.router(0, 2), 100);
        x.start(1);
        x.open(1, 0, 1, 1, 1);
        DUE.is("WEIGHED when the other one has a session", x.router(0, 2), 100);
    }

    private static void skewIsDownwards() {
        DUE.sentence("SKEW is (256 - WEIGHED priority) * the known interval / 256, downwards");
        int[][] rows = {{1, 4095, 4079}, {2, 4095, 4063}, {128, 4095, 2047}, {128, 5, 2}, {100, 100, 60}, {100, 105, 63},
            {254, 4095, 31}, {254, 383, 2}, {254, 384, 3}, {253, 85, 1}, {253, 86, 1}, {253, 170, 1}, {253, 171, 2}};
        for (int[] row : rows) {
            StandInLan x = backup(row[0], row[1]);
            Tapes.advertise(x, 0, 0, 50, 1);
            DUE.is("SKEW of " + row[0] + ", " + row[1], x.router(0, 1), row[2]);
        }
    }

    private static void downIsThreeIntervalsAndSkew() {
        DUE.sentence("DOWN is 3 * the known interval + SKEW");
        int[][] rows = {{1, 1, 3}, {254, 1, 3}, {1, 2, 7}, {254, 127, 381}, {254, 128, 385}, {1, 4095, 16364},
            {254, 4095, 12316}, {100, 100, 360}};
        for (int[] row : rows) {
            StandInLan x = backup(row[0], row[1]);
            DUE.is("DOWN of " + row[0] + ", " + row[1], x.router(0, 1), row[2]);
            StandInLan y = backup(row[0], 50);
            Tapes.advertise(y, 0, 255, row[1], 1);
            DUE.is("DOWN of " + row[0] + ", " + row[1] + " as told", y.router(0, 1), row[2]);
        }
    }

    /** An ADDRESS with which the SUM of what the router sends, without the CHECK and not yet folded, is as wanted. */
    private static int addressFor(int[] row, long wanted) {
        long rest = wanted - 57344 - 18 - 112 - 12;
        for (int i = 0; i < 12; i += 2) {
            rest -= i == 6 ? 0 : row[i] * 256 + row[i + 1];
        }
        if (rest < 0 || rest > 131070) {
            throw new IllegalStateException("no ADDRESS makes this sum");
        }
        long high = Math.min(65535, rest);
        return (int) (high << 16 | rest - high);
    }

    private static void ofTwoChecksTheLesserOneIsSent() {
        DUE.sentence("The CHECK is such (of two such the lesser one) that the SUM of these is 65535");
        for (int k = 3; k < 5; k++) {
            int address = addressFor(Tapes.advertisement(1, 255, 100, Tapes.VIRTUAL, 0), 65535L * k);
            StandInLan x = new StandInLan();
            x.set(0, 0, 255);
            x.set(0, 4, address);
            x.start(0);
            DUE.is("CHECK's first byte", x.frame(0, 6), 0);
            DUE.is("CHECK's second byte", x.frame(0, 7), 0);
            x.start(1);
            x.tick(1);
            DUE.is("taken with CHECK 0", x.router(1, 5), 1);
            int[] row = Tapes.advertisement(1, 255, 100, Tapes.VIRTUAL, address);
            row[6] = 255;
            row[7] = 255;
            Tapes.bytes(x, row);
            DUE.yes("taken with CHECK 65535, too", x.arrive(1, 1, 9, 255, address));
        }
    }

    private static void sumsAreFoldedAsLongAsNeeded() {
        DUE.sentence("SUM: all added up, and, as long as it is above 65535, its upper part (/ 65536) added to the rest");
        // GROUP, INTERVAL, VIRTUAL, the priority sent, and the sum round which ADDRESS is chosen.
        int[][] cases = {{1, 1, 0, 0, 131070}, {1, 1, 0, 0, 131072}, {1, 100, Tapes.VIRTUAL, 0, 196605},
            {1, 100, Tapes.VIRTUAL, 0, 196608}, {255, 4095, -1, 0, 262140}, {255, 4095, -1, 0, 262144},
            {255, 4095, -1, 0, 327675}, {255, 4095, -1, 255, 327680}, {255, 4095, -1, 255, 393210},
            {255, 4095, -1, 255, 393216}};
        for (int[] c : cases) {
            for (int sum = c[4] - 6; sum <= c[4] + 6; sum++) {
                int address = addressFor(Tapes.advertisement(c[0], c[3], c[1], c[2], 0), sum);
                StandInLan x = new StandInLan();
                for (int r = 0; r < 2; r++) {
                    x.set(r, 3, c[0]);
                    x.set(r, 5, c[2]);
                }
                x.set(0, 0, 255);
                x.set(0, 1, c[1]);
                x.set(0, 4, address);
                x.start(0);
                x.stop(0, false);
                // The goodbye, with priority 0, goes behind the first advertisement and the announcement.
                DUE.frame(x, c[3] == 0 ? 2 : 0, new int[] {1, 1, 9, 15, 12, 30},
                    Tapes.advertisement(c[0], c[3], c[1], c[2], address));
                x.start(1);
                x.tick(1);
                DUE.is("taken with the sum " + sum, x.router(1, 5), 2);
            }
        }
    }

    private static void advertisementsHaveTwelveBytes() {
        DUE.sentence("AN ADVERTISEMENT (kind 1, from station 9 to 15) has 12 bytes");
        for (int r = 0; r < 5; r++) {
            StandInLan x = new StandInLan();
            x.set(r, 0, 255);
            x.start(r);
            DUE.frame(x, 0, new int[] {1, 1, 9, 15, 12, 31 - (1 << r)},
                Tapes.advertisement(1, 255, 100, Tapes.VIRTUAL, OWN + r));
            DUE.is("frame(0, 11)", x.frame(0, 11), 240);
            DUE.is("frame(0, 12)", x.frame(0, 12), StandInLan.NONE);
        }
    }

    private static void announcementsHaveNoPacket() {
        DUE.sentence("TO ANNOUNCE: a frame of kind 3, from 9 to 15, without a packet.");
        StandInLan x = new StandInLan();
        x.set(3, 0, 255);
        x.start(3);
        DUE.is("flying()", x.flying(), 2);
        DUE.frame(x, 1, new int[] {1, 3, 9, 15, 0, 23});
    }

    private static void startedWith255IsActive() {
        DUE.sentence("STARTED: it knows INTERVAL; with the WEIGHED priority 255 it is to be ACTIVE, else to be a BACKUP.");
        for (int priority : new int[] {1, 254, 255}) {
            StandInLan x = backup(priority, 33);
            DUE.is("state with " + priority, x.router(0, 0), priority == 255 ? 2 : 1);
            DUE.is("known", x.router(0, 3), 33);
            DUE.is("came to be ACTIVE", x.router(0, 4), priority == 255 ? 1 : 0);
            DUE.is("sent", x.router(0, 6), priority == 255 ? 2 : 0);
        }
    }

    private static void firedTimersGoOn() {
        DUE.sentence("Its timer fires: a BACKUP is to be ACTIVE; an ACTIVE one advertises .., the timer is INTERVAL.");
        StandInLan x = backup(100, 10);
        x.set(0, 1, 20);
        x.tick(36);
        DUE.router(x, 0, 2, 20, 100, 10, 1, 0, 2);
        x.set(0, 1, 5);
        x.tick(19);
        DUE.router(x, 0, 2, 1, 100, 10, 1, 0, 2);
        x.tick(1);
        DUE.router(x, 0, 2, 5, 100, 10, 1, 0, 3);
        DUE.is("no announcement goes with it", x.flying(), 1);
    }

    private static boolean comes(StandInLan x, int[] row, int hops, int address) {
        Tapes.bytes(x, row);
        return x.arrive(0, 1, 9, hops, address);
    }

    /** The row with another byte at a place, and a CHECK that fits it. */
    private static int[] with(int[] row, int at, int value, int address) {
        int[] other = row.clone();
        other[at] = value;
        other[6] = 0;
        other[7] = 0;
        int check = (int) (65535 - Tapes.sum(other, address));
        other[6] = check >>> 8;
        other[7] = check & 255;
        return other;
    }

    private static final int[] GOOD = Tapes.advertisement(1, 200, 50, Tapes.VIRTUAL, 77);

    private static void nothingHappened(StandInLan x) {
        DUE.router(x, 0, 1, 360, 100, 100, 0, 0, 0, 0);
    }

    private static void takenOnlyWithAllHops() {
        DUE.sentence("it is TAKEN if HOPS are 255");
        StandInLan x = backup(100, 100);
        for (int hops : new int[] {0, 1, 127, 128, 254}) {
            DUE.no("HOPS " + hops, comes(x, GOOD, hops, 77));
        }
        nothingHappened(x);
        DUE.yes("HOPS 255", comes(x, GOOD, 255, 77));
        DUE.router(x, 0, 1, 180, 100, 50, 0, 1, 0, 0);
    }

    private static void takenOnlyWithTwelveBytes() {
        DUE.sentence("it has 12 bytes");
        StandInLan x = backup(100, 100);
        for (int length : new int[] {0, 1, 2, 10, 11, 13, 14, 24, 40}) {
            for (int i = 0; i < length; i++) {
                x.type(i < 12 ? GOOD[i] : 0, 1);
            }
            DUE.no(length + " bytes", x.arrive(0, 1, 9, 255, 77));
        }
        // Without its last byte, and with that byte 0, the numbers that are left have the right SUM.
        StandInLan y = new StandInLan();
        y.set(0, 5, 256);
        y.start(0);
        int[] row = Tapes.advertisement(1, 200, 50, 256, 77);
        for (int i = 0; i < 11; i++) {
            y.type(row[i], 1);
        }
        DUE.no("11 bytes", y.arrive(0, 1, 9, 255, 77));
        nothingHappened(x);
        nothingHappened(y);
        DUE.yes("12 bytes", comes(x, GOOD, 255, 77));
    }

    private static void takenOnlyWithTheRightBytes() {
        DUE.sentence("the first is 49, its GROUP and VIRTUAL are the router's, the fourth byte is 1");
        StandInLan x = backup(100, 100);
        int[][] wrong = {{0, 48}, {0, 50}, {0, 33}, {0, 177}, {1, 0}, {1, 2}, {1, 129}, {3, 0}, {3, 2}, {3, 129},
            {8, 11}, {8, 138}, {9, 1}, {10, 1}, {11, 239}, {11, 241}, {11, 112}};
        for (int[] w : wrong) {
            DUE.no("byte " + w[0] + " is " + w[1], comes(x, with(GOOD, w[0], w[1], 77), 255, 77));
        }
        nothingHappened(x);
        DUE.yes("all as due", comes(x, with(GOOD, 2, 201, 77), 255, 77));
    }

    private static void takenOnlyWithTheRightSum() {
        DUE.sentence("the SUM (with the frame's ADDRESS) is 65535");
        StandInLan x = backup(100, 100);
        for (int address : new int[] {76, 78, 77 + 65536, 0, -1, Integer.MIN_VALUE + 77}) {
            DUE.no("with ADDRESS " + address, comes(x, GOOD, 255, address));
        }
        for (int at = 0; at < 12; at++) {
            int[] row = GOOD.clone();
            row[at] ^= 128;
            DUE.no("byte " + at + " is not as the CHECK says", comes(x, row, 255, 77));
        }
        nothingHappened(x);
        DUE.yes("the two parts of ADDRESS are added, so they may change places", comes(x, GOOD, 255, 77 << 16));
    }

    private static void notTakenWithPriority255() {
        DUE.sentence("and the router's PRIORITY is not 255 .. Else nothing happens.");
        for (int state = 1; state < 3; state++) {
            StandInLan x = state == 1 ? backup(254, 100) : active();
            int timer = x.router(0, 1);
            int sent = x.router(0, 6);
            x.set(0, 0, 255);
            for (int priority : new int[] {0, 1, 254, 255}) {
                DUE.no("priority " + priority, Tapes.advertise(x, 0, priority, 50, -1));
            }
            DUE.router(x, 0, state, timer, 255, 100, state - 1, 0, sent);
            x.set(0, 0, 254);
            DUE.yes("with PRIORITY 254", Tapes.advertise(x, 0, 255, 50, -1));
            DUE.router(x, 0, 1, 150, 254, 50, state - 1, 1, sent);
        }
    }

    private static void twelveBitsOfTheIntervalCount() {
        DUE.sentence("of its interval the lowest 12 bits count, 0 as 1");
        int[][] rows = {{0, 1}, {1, 1}, {2, 2}, {4094, 4094}, {4095, 4095}, {4096, 1}, {4097, 1}, {4098, 2}, {8191, 4095},
            {8192, 1}, {32768, 1}, {61440, 1}, {65535, 4095}};
        for (int[] row : rows) {
            StandInLan x = backup(100, 100);
            DUE.yes("interval " + row[0], Tapes.advertise(x, 0, 100, row[0], 1));
            DUE.is("a BACKUP knows", x.router(0, 3), row[1]);
            StandInLan y = active();
            DUE.yes("interval " + row[0], Tapes.advertise(y, 0, 101, row[0], 1));
            DUE.is("one that was ACTIVE knows", y.router(0, 3), row[1]);
        }
    }

    private static void backupHearsZero() {
        DUE.sentence("A BACKUP: priority 0: the timer is SKEW.");
        for (int preempt = 0; preempt < 2; preempt++) {
            StandInLan x = backup(100, 100);
            x.set(0, 2, preempt);
            Tapes.advertise(x, 0, 0, 50, 1);
            DUE.router(x, 0, 1, 60, 100, 100, 0, 1, 0, 0);
            x.tick(50);
            Tapes.advertise(x, 0, 0, 50, 1);
            DUE.is("also if less was left", x.router(0, 1), 60);
        }
    }

    private static void backupHearsLesserSameAndGreater() {
        DUE.sentence("if PREEMPT is 0 or the priority is not below its WEIGHED one: it knows that interval, the timer is DOWN");
        int[] told = {1, 69, 70, 71, 99, 100, 255};
        for (int preempt = 0; preempt < 2; preempt++) {
            for (int priority : told) {
                StandInLan x = new StandInLan();
                x.set(0, 2, preempt);
                x.set(0, 8, 30);
                x.set(0, 9, 2);
                x.start(0);
                x.open(0, 1, 1000, 10, 3);
                x.tick(10);
                DUE.is("WEIGHED", x.router(0, 2), 70);
                DUE.yes("TAKEN", Tapes.advertise(x, 0, priority, 50, 1));
                boolean counts = preempt == 0 || priority >= 70;
                // DOWN with the WEIGHED priority 70 is 3 * 50 + 186 * 50 / 256.
                DUE.router(x, 0, 1, counts ? 186 : 350, 70, counts ? 50 : 100, 0, 1, 0, 0);
            }
        }
    }

    private static void activeHearsZero() {
        DUE.sentence("An ACTIVE one: priority 0: it advertises with the WEIGHED priority, the timer is INTERVAL.");
        for (int address : new int[] {0, OWN, -1}) {
            StandInLan x = active();
            Tapes.advertise(x, 0, 0, 50, address);
            DUE.router(x, 0, 2, 100, 100, 100, 1, 1, 3, 0);
            DUE.is("flying()", x.flying(), 1);
            DUE.frame(x, 0, new int[] {1, 1, 9, 15, 12, 30}, Tapes.advertisement(1, 100, 100, Tapes.VIRTUAL, OWN));
        }
    }

    private static void activeHearsLesserSameAndGreater() {
        DUE.sentence("Else, if the priority is above its WEIGHED one, or the same, and the frame's ADDRESS is above its own");
        for (int priority : new int[] {1, 99, 100, 101, 255}) {
            for (int step = -1; step < 2; step++) {
                StandInLan x = active();
                Tapes.advertise(x, 0, priority, 50, OWN + step);
                boolean yields = priority > 100 || priority == 100 && step > 0;
                DUE.router(x, 0, yields ? 1 : 2, yields ? 180 : 90, 100, yields ? 50 : 100, 1, 1, yields ? 2 : 3, 0);
            }
        }
        DUE.sentence("Else it advertises with the WEIGHED priority (its timer stays).");
        StandInLan x = active();
        x.set(0, 8, 30);
        x.set(0, 9, 2);
        x.open(0, 1, 1000, 10, 3);
        Tapes.advertise(x, 0, 69, 50, -1);
        DUE.router(x, 0, 2, 90, 70, 100, 1, 1, 3, 0);
        DUE.is("the priority sent", x.frame(0, 2), 70);
        Tapes.advertise(x, 0, 71, 50, 0);
        DUE.is("it yields by its WEIGHED priority", x.router(0, 0), 1);
    }

    private static void activeComparesAddressesWithoutSigns() {
        DUE.sentence("the frame's ADDRESS is above its own (without signs)");
        int[] rising = {0, 1, 65535, 65536, Integer.MAX_VALUE, Integer.MIN_VALUE, Integer.MIN_VALUE + 1, -2, -1};
        for (int own = 0; own < rising.length; own++) {
            for (int told = 0; told < rising.length; told++) {
                StandInLan x = active();
                x.set(0, 4, rising[own]);
                DUE.yes("TAKEN", Tapes.advertise(x, 0, 100, 50, rising[told]));
                DUE.is("own " + rising[own] + ", told " + rising[told], x.router(0, 0), told > own ? 1 : 2);
            }
        }
    }

    private static void stoppedOnesSayGoodbyeIfActive() {
        DUE.sentence("STOPPED: an ACTIVE one advertises with 0. Then it is OFF, as when it CRASHES");
        for (int crash = 0; crash < 2; crash++) {
            StandInLan x = active();
            x.stop(0, crash == 1);
            DUE.is("flying()", x.flying(), 1 - crash);
            DUE.is("sent", x.router(0, 6), 3 - crash);
            DUE.is("the priority sent", x.frame(0, 2), crash == 1 ? StandInLan.NONE : 0);
            StandInLan y = backup(100, 100);
            y.stop(0, crash == 1);
            DUE.is("flying() of a BACKUP", y.flying(), 0);
            DUE.is("sent by a BACKUP", y.router(0, 6), 0);
        }
    }

    private static void crashedOnesForget() {
        DUE.sentence("all its timers, sessions, what it knows are gone");
        for (int crash = 0; crash < 2; crash++) {
            StandInLan x = Tapes.withSession(3, 50, 60, 3);
            x.open(0, 4, 1, 1, 1);
            x.stop(0, crash == 1);
            DUE.router(x, 0, 0, 0, 0, 0, 0, 0, 0, 0);
            for (int s = 0; s < 5; s++) {
                for (int what = 0; what < 12; what++) {
                    DUE.is("session(0, " + s + ", " + what + ")", x.session(0, s, what), StandInLan.NONE);
                }
            }
            x.tick(400);
            DUE.router(x, 0, 0, 0, 0, 0, 0, 0, 0, 0);
            x.start(0);
            DUE.is("no session after a new start", x.session(0, 1, 0), StandInLan.NONE);
            DUE.router(x, 0, 1, 360, 100, 100, 0, 0, 0, 0);
            x.open(0, 1, 7, 8, 9);
            DUE.session(x, 0, 1, 1, 1, 0, 0, 100, 0, 7, 8, 0, 1, 0, 0);
        }
    }

    private static void sessionsThatAreGoneDoNothing() {
        DUE.sentence("all its timers, sessions .. are gone (of every router, with every other one)");
        for (int r = 0; r < 5; r++) {
            StandInLan x = new StandInLan();
            x.set(r, 8, 20);
            x.set(r, 9, 31);
            x.start(r);
            for (int s = 0; s < 5; s++) {
                if (s != r) {
                    x.open(r, s, 1, 1, 1);
                }
            }
            DUE.is("WEIGHED before", x.router(r, 2), 20);
            x.stop(r, r % 2 == 0);
            x.start(r);
            DUE.router(x, r, 1, 360, 100, 100, 0, 0, 0, 0);
            for (int s = 0; s < 5; s++) {
                DUE.is("session(" + r + ", " + s + ", 0)", x.session(r, s, 0), StandInLan.NONE);
                Tapes.bytes(x, Tapes.packet(1, 32, 3, 9, 16 * r + s + 1, 1, 1));
                DUE.no("a packet for the session with " + s, x.arrive(r, 2, s, 255, 0));
            }
            x.tick(359);
            DUE.router(x, r, 1, 1, 100, 100, 0, 0, 0, 0);
        }
    }

    private static void askingHasNoPacket() {
        DUE.sentence("ASKING: a frame of kind 3 from the router's own station to 15, without a packet.");
        for (int r = 0; r < 5; r++) {
            StandInLan x = new StandInLan();
            x.start(r);
            x.ask(r);
            DUE.frame(x, 0, new int[] {1, 3, r, 15, 0, 31 - (1 << r)});
        }
    }

    private static void announcementsAreNotAnswered() {
        DUE.sentence("When one from another station than 9 arrives at an ACTIVE router");
        StandInLan x = new StandInLan();
        x.set(0, 0, 255);
        x.set(1, 0, 255);
        x.start(0);
        x.tick(1);
        x.start(1);
        DUE.is("the announcement is of kind 3", x.frame(1, -2), 3);
        x.tick(1);
        DUE.is("flying()", x.flying(), 0);
        DUE.is("sent", x.router(0, 6), 2);
        x.ask(1);
        x.tick(1);
        DUE.is("a question is answered", x.router(0, 6), 3);
    }

    private static void backupsDoNotAnswer() {
        DUE.sentence("arrives at an ACTIVE router");
        StandInLan x = backup(200, 100);
        x.start(1);
        x.ask(1);
        x.tick(1);
        DUE.is("flying()", x.flying(), 0);
        x.tick(319);
        x.ask(1);
        DUE.router(x, 0, 1, 1);
        x.tick(1);
        DUE.router(x, 0, 2, 100, 200, 100, 1, 0, 2);
        DUE.is("one that came to be ACTIVE after the question came", x.frame(1, -2), 3);
        x.ask(1);
        x.tick(1);
        DUE.is("sent", x.router(0, 6), 3);
        DUE.is("kind", x.frame(0, -2), 4);
    }

    private static void answersGoToTheOneWhoAsked() {
        DUE.sentence("that sends a frame of kind 4 from 9 to the station that asked, without a packet");
        for (int r = 0; r < 5; r++) {
            for (int asks = 0; asks < 5; asks++) {
                if (asks == r) {
                    continue;
                }
                StandInLan x = new StandInLan();
                x.set(r, 0, 255);
                x.start(r);
                x.tick(1);
                x.start(asks);
                x.ask(asks);
                x.tick(1);
                DUE.is("flying()", x.flying(), 1);
                DUE.frame(x, 0, new int[] {1, 4, 9, asks, 0, 1 << asks});
            }
        }
    }

    private static void theAddressIsNoted() {
        DUE.sentence("A router to which one of kind 4 arrives notes the ADDRESS with it.");
        StandInLan x = new StandInLan();
        x.set(0, 0, 255);
        for (int r = 0; r < 5; r++) {
            x.start(r);
        }
        x.tick(1);
        x.ask(3);
        x.tick(1);
        DUE.is("before it arrived", x.router(3, 7), 0);
        x.tick(1);
        for (int r = 0; r < 5; r++) {
            DUE.is("noted by " + r, x.router(r, 7), r == 3 ? OWN : 0);
        }
        x.set(0, 4, 0);
        x.ask(3);
        x.tick(2);
        DUE.is("an ADDRESS 0 is noted, too", x.router(3, 7), 0);
    }
}
