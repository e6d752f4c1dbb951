/** The boundary cases in the document's part SESSIONS. */
public final class EdgesOfSessionsTest {
    private static final Due DUE = new Due("EdgesOfSessionsTest");

    public static void main(String[] args) {
        oneSessionWithEachOther();
        ratesAndMultipliersHaveEnds();
        ownNumbersAreOfBothRouters();
        openedOnesBeginAnew();
        sendIsTheGreaterOne();
        sendIsAtLeast100WhileNotUp();
        sendIsOffIfItsRxIsZero();
        pollBitsGoWhileItPolls();
        packetsTellDiagnosisAndState();
        packetsTellTxOfAtLeast100WhileNotUp();
        packetsTellWhatIsWanted();
        hearsOnlyWithAllHops();
        hears24BytesAtLeast();
        hearsFirstBytes32To63();
        hearsFourthBytesThatFit();
        hearsNoMultiplierZero();
        hearsNoBitsFourAndOne();
        hearsNoSenderZero();
        findsItsSessionByNumber();
        findsItsSessionByStation();
        numbersAbove100000CountAs100000();
        finalBitsCountIfItPolls();
        detectIsTheGreaterOneTimesTheMultiplier();
        detectIsTenMillionAtMost();
        toldAdminItFallsFromInitAndUp();
        statesFollowWhatIsTold();
        adminStays();
        pollsAreAnsweredInAnyState();
        sendIsSetIfSomethingChanged();
        sendIsNotSetIfLessIsLeft();
        sendIsOffInAnyCaseIfItsRxIsZero();
        detectFires();
        changedOnesAreInUseAtOnceUnlessUp();
        changedInUpByItsSide();
        changedSetsSendLikewise();
        shutOnesGoOnSending();
        DUE.end();
    }

    private static boolean comes(StandInLan x, int[] row, int hops) {
        Tapes.bytes(x, row);
        return x.arrive(0, 2, 1, hops, 0);
    }

    private static boolean tells(StandInLan x, int state, int bits, int multiplier, int tx, int rx) {
        return comes(x, Tapes.packet(state, bits, multiplier, 17, 2, tx, rx), 255);
    }

    private static int[] with(int[] row, int at, int value) {
        int[] other = row.clone();
        other[at] = value;
        return other;
    }

    private static void untouched(StandInLan x) {
        DUE.session(x, 0, 1, 1, 1, 0, 0, 100, 0, 10, 10, 0, 1, 0, 0);
        DUE.is("sent", x.router(0, 6), 0);
    }

    private static void oneSessionWithEachOther() {
        DUE.sentence("A router has at most one with each other router.");
        for (int r = 0; r < 5; r++) {
            StandInLan x = new StandInLan();
            x.start(r);
            int self = r;
            DUE.outside("open(" + r + ", " + r + ", 1, 1, 1)", () -> x.open(self, self, 1, 1, 1));
            for (int round = 1; round < 3; round++) {
                for (int s = 0; s < 5; s++) {
                    if (s != r) {
                        x.open(r, s, 10 * round, 1 + s, 1);
                    }
                }
            }
            for (int s = 0; s < 5; s++) {
                DUE.is("TX of the one session with " + s, x.session(r, s, 6), s == r ? StandInLan.NONE : 20);
                DUE.is("RX of the one session with " + s, x.session(r, s, 7), s == r ? StandInLan.NONE : 1 + s);
            }
            x.tick(100);
            DUE.is("each one sent once", x.router(r, 6), 4);
        }
    }

    private static void ratesAndMultipliersHaveEnds() {
        DUE.sentence("TX and RX (1 .. 1000, ..), a MULTIPLIER (1 .. 255)");
        StandInLan x = new StandInLan();
        x.start(0);
        int[][] good = {{1, 1, 1}, {1000, 1000, 255}, {1, 1000, 128}, {1000, 1, 2}, {999, 2, 254}};
        for (int[] g : good) {
            x.open(0, 1, g[0], g[1], g[2]);
            DUE.is("TX in use", x.session(0, 1, 6), g[0]);
            DUE.is("RX in use", x.session(0, 1, 7), g[1]);
            Tapes.tell(x, 0, 1, 1, 32, 1, 1);
            DUE.is("MULTIPLIER sent", x.frame(x.flying() - 1, 2), g[2]);
        }
        int[][] bad = {{0, 1, 1}, {1001, 1, 1}, {1, 0, 1}, {1, 1001, 1}, {1, 1, 0}, {1, 1, 256}, {0, 0, 1}, {-1, 1, 1},
            {1, -1, 1}, {1, 1, -1}};
        for (int[] b : bad) {
            DUE.unfit("open(0, 1, " + b[0] + ", " + b[1] + ", " + b[2] + ")", () -> x.open(0, 1, b[0], b[1], b[2]));
        }
        DUE.is("the last good one stays", x.session(0, 1, 6), 999);
    }

    private static void ownNumbersAreOfBothRouters() {
        DUE.sentence("Its own number is 16 * the router + the other router + 1.");
        for (int r = 0; r < 5; r++) {
            for (int s = 0; s < 5; s++) {
                if (s == r) {
                    continue;
                }
                StandInLan x = new StandInLan();
                x.start(r);
                x.open(r, s, 1, 1, 1);
                for (int number = 0; number < 100; number++) {
                    Tapes.bytes(x, Tapes.packet(3, 0, 1, 9, number, 1, 1));
                    DUE.is("number " + number, x.arrive(r, 2, 14, 255, 0) ? 1 : 0, number == 16 * r + s + 1 ? 1 : 0);
                }
                x.tick(100);
                DUE.is("sent", x.frame(0, 7), 16 * r + s + 1);
            }
        }
    }

    private static void openedOnesBeginAnew() {
        DUE.sentence("OPENED: DOWN; REMOTE state DOWN, REMOTE number 0, .. TX and RX as told and in use, DETECT off, SEND is set.");
        for (int state = 0; state < 4; state++) {
            StandInLan x = Tapes.withSession(state, 500, 60, 3);
            Tapes.bytes(x, Tapes.packet(3, 0, 3, 17, 2, 70, 0));
            x.arrive(0, 2, 1, 255, 0);
            if (state == 3) {
                x.change(0, 1, 600, 6);
            }
            x.tick(7);
            x.open(0, 1, 200, 5, 9);
            DUE.session(x, 0, 1, 1, 1, 0, 0, 200, 0, 200, 5, 0, 1, 0, 0);
            x.tick(200);
            DUE.frame(x, 0, new int[] {1, 2, 0, 1, 24, 30}, 32, 64, 9, 24, 0, 0, 0, 2, 0, 0, 0, 0,
                0, 0, 0, 200, 0, 0, 0, 5, 0, 0, 0, 0);
        }
    }

    private static void sendIsTheGreaterOne() {
        DUE.sentence("SEND IS SET to the greater of the TX in use .. and ITS RX");
        for (int itsRx : new int[] {1, 49, 50, 51, 100, 101, 100000}) {
            StandInLan x = Tapes.withSession(3, 50, 60, 3);
            tells(x, 3, 0, 255, 1, itsRx);
            x.tick(50);
            DUE.is("SEND in UP, ITS RX " + itsRx, x.session(0, 1, 4), Math.max(50, itsRx));
            StandInLan y = Tapes.withSession(1, 150, 60, 3);
            tells(y, 3, 0, 255, 1, itsRx);
            y.tick(150);
            DUE.is("SEND in DOWN, ITS RX " + itsRx, y.session(0, 1, 4), Math.max(150, itsRx));
        }
    }

    private static void sendIsAtLeast100WhileNotUp() {
        DUE.sentence("the TX in use (at least 100 while it is not UP)");
        for (int tx : new int[] {1, 99, 100, 101, 400}) {
            for (int state = 0; state < 4; state++) {
                StandInLan x = Tapes.withSession(state, tx, 60, 3);
                tells(x, state == 2 ? 1 : 3, 0, 255, 1000, 1);
                x.tick(x.session(0, 1, 4));
                DUE.is("SEND in STATE " + state + " with TX " + tx, x.session(0, 1, 4), state == 3 ? tx : Math.max(100, tx));
            }
        }
    }

    private static void sendIsOffIfItsRxIsZero() {
        DUE.sentence("it is off if ITS RX is 0");
        for (int state = 0; state < 4; state++) {
            StandInLan x = Tapes.withSession(state, 50, 60, 3);
            tells(x, state == 2 ? 1 : 3, 0, 255, 1000, 0);
            DUE.is("SEND in STATE " + state, x.session(0, 1, 4), 0);
            int sent = x.router(0, 6);
            x.tick(300);
            DUE.is("nothing is sent", x.router(0, 6), sent);
            DUE.is("SEND stays off", x.session(0, 1, 4), 0);
            tells(x, state == 2 ? 1 : 3, 32, 255, 1000, 0);
            DUE.is("a poll is answered all the same", x.router(0, 6), sent + 1);
            DUE.is("SEND stays off", x.session(0, 1, 4), 0);
        }
    }

    private static void pollBitsGoWhileItPolls() {
        DUE.sentence("When SEND fires: a packet goes .., with a poll bit if it POLLS; then SEND is set.");
        StandInLan x = Tapes.withSession(3, 50, 60, 3);
        tells(x, 3, 0, 255, 1000, 1);
        x.tick(50);
        DUE.is("no poll", x.frame(0, 1), 192);
        DUE.is("SEND", x.session(0, 1, 4), 50);
        x.change(0, 1, 50, 60);
        for (int i = 0; i < 3; i++) {
            x.tick(50);
            DUE.is("a poll", x.frame(0, 1), 224);
        }
        tells(x, 3, 16, 255, 1000, 1);
        x.tick(50);
        DUE.is("no poll any more", x.frame(0, 1), 192);
    }

    private static void packetsTellDiagnosisAndState() {
        DUE.sentence("32 + DIAGNOSIS; 64 * STATE + 32 (poll) + 16 (final)");
        int[][] first = {{39, 0}, {32, 64}, {32, 128}, {32, 192}};
        for (int state = 0; state < 4; state++) {
            StandInLan x = Tapes.withSession(state, 100, 60, 3);
            tells(x, state == 2 ? 1 : 3, 32, 255, 1000, 1);
            DUE.is("the first byte", x.frame(0, 0), first[state][0]);
            DUE.is("the second byte, with final", x.frame(0, 1), first[state][1] + 16);
            x.tick(100);
            DUE.is("the second byte", x.frame(0, 1), first[state][1]);
        }
        StandInLan x = Tapes.withSession(3, 100, 10, 1);
        x.change(0, 1, 100, 10);
        tells(x, 0, 32, 1, 1, 1);
        DUE.is("DIAGNOSIS 3", x.frame(0, 0), 35);
        StandInLan y = Tapes.withSession(3, 100, 10, 1);
        y.tick(300);
        DUE.is("DIAGNOSIS 1", y.frame(0, 0), 33);
        y.change(0, 1, 0, 0);
        y.tick(100);
        DUE.is("DIAGNOSIS 7", y.frame(0, 0), 39);
    }

    private static void packetsTellTxOfAtLeast100WhileNotUp() {
        DUE.sentence("TX (4; while it is not UP at least 100)");
        for (int tx : new int[] {1, 99, 100, 101, 255, 256, 1000}) {
            for (int state = 0; state < 4; state++) {
                StandInLan x = Tapes.withSession(state, tx, 60, 3);
                tells(x, state == 2 ? 1 : 3, 32, 255, 1000, 1);
                int told = x.frame(0, 14) * 256 + x.frame(0, 15);
                DUE.is("TX " + tx + " in STATE " + state, told, state == 3 ? tx : Math.max(100, tx));
                DUE.is("its upper bytes", x.frame(0, 12) + x.frame(0, 13), 0);
            }
        }
    }

    private static void packetsTellWhatIsWanted() {
        DUE.sentence("TX and RX (.. what it wants to send, can take ..) .. and the TX and RX IN USE");
        StandInLan x = Tapes.withSession(3, 300, 400, 3);
        x.change(0, 1, 500, 200);
        tells(x, 3, 32, 255, 1000, 1);
        DUE.is("TX in use", x.session(0, 1, 6), 300);
        DUE.is("RX in use", x.session(0, 1, 7), 400);
        DUE.is("TX sent", x.frame(0, 14) * 256 + x.frame(0, 15), 500);
        DUE.is("RX sent", x.frame(0, 18) * 256 + x.frame(0, 19), 200);
        for (int i = 20; i < 24; i++) {
            DUE.is("byte " + i, x.frame(0, i), 0);
        }
        DUE.is("byte 24", x.frame(0, 24), StandInLan.NONE);
    }

    private static final int[] GOOD = Tapes.packet(1, 32, 3, 17, 2, 100, 5);

    private static StandInLan fresh() {
        return Tapes.withSession(1, 10, 10, 3);
    }

    private static void hearsOnlyWithAllHops() {
        DUE.sentence("nothing happens unless: HOPS are 255");
        StandInLan x = fresh();
        for (int hops : new int[] {0, 1, 127, 254}) {
            DUE.no("HOPS " + hops, comes(x, GOOD, hops));
        }
        untouched(x);
        DUE.yes("HOPS 255", comes(x, GOOD, 255));
        DUE.session(x, 0, 1, 2, 1, 17, 0, 100, 300, 10, 10, 0, 5, 100, 0);
    }

    private static void hears24BytesAtLeast() {
        DUE.sentence("it has 24 bytes at least");
        StandInLan x = fresh();
        for (int length : new int[] {0, 1, 12, 23}) {
            for (int i = 0; i < length; i++) {
                x.type(GOOD[i], 1);
            }
            DUE.no(length + " bytes", x.arrive(0, 2, 1, 255, 0));
        }
        untouched(x);
        for (int length : new int[] {24, 25, 39, 40}) {
            StandInLan y = fresh();
            for (int i = 0; i < length; i++) {
                y.type(i < 24 ? GOOD[i] : 255, 1);
            }
            DUE.yes(length + " bytes", y.arrive(0, 2, 1, 255, 0));
            DUE.session(y, 0, 1, 2, 1, 17, 0, 100, 300, 10, 10, 0, 5, 100, 0);
        }
    }

    private static void hearsFirstBytes32To63() {
        DUE.sentence("the first byte is 32 .. 63");
        for (int first = 0; first < 256; first++) {
            StandInLan x = fresh();
            boolean due = first >= 32 && first <= 63;
            DUE.is("first byte " + first, comes(x, with(GOOD, 0, first), 255) ? 1 : 0, due ? 1 : 0);
            DUE.is("STATE", x.session(0, 1, 0), due ? 2 : 1);
        }
    }

    private static void hearsFourthBytesThatFit() {
        DUE.sentence("the fourth is 24 at least, and not more than it has");
        for (int length = 24; length <= 40; length++) {
            for (int fourth : new int[] {0, 23, 24, 25, length - 1, length, length + 1, 41, 255}) {
                StandInLan x = fresh();
                for (int i = 0; i < length; i++) {
                    x.type(i == 3 ? fourth : i < 24 ? GOOD[i] : 0, 1);
                }
                boolean due = fourth >= 24 && fourth <= length;
                DUE.is(fourth + " of " + length, x.arrive(0, 2, 1, 255, 0) ? 1 : 0, due ? 1 : 0);
                DUE.is("STATE", x.session(0, 1, 0), due ? 2 : 1);
            }
        }
    }

    private static void hearsNoMultiplierZero() {
        DUE.sentence("the third is not 0");
        StandInLan x = fresh();
        DUE.no("multiplier 0", comes(x, with(GOOD, 2, 0), 255));
        untouched(x);
        for (int multiplier : new int[] {1, 128, 255}) {
            DUE.yes("multiplier " + multiplier, comes(x, with(GOOD, 2, multiplier), 255));
            DUE.is("DETECT", x.session(0, 1, 5), 100 * multiplier);
        }
    }

    private static void hearsNoBitsFourAndOne() {
        DUE.sentence("the second byte's 4 and 1 are not set");
        for (int bits = 0; bits < 16; bits++) {
            StandInLan x = fresh();
            boolean due = (bits & 1) == 0 && (bits & 4) == 0;
            DUE.is("bits " + bits, comes(x, with(GOOD, 1, 64 + bits), 255) ? 1 : 0, due ? 1 : 0);
            DUE.is("STATE", x.session(0, 1, 0), due ? 2 : 1);
            DUE.is("sent, for there is no poll bit", x.router(0, 6), 0);
        }
    }

    private static void hearsNoSenderZero() {
        DUE.sentence("the sender's number is not 0");
        StandInLan x = fresh();
        DUE.no("number 0", comes(x, Tapes.packet(1, 32, 3, 0, 2, 100, 5), 255));
        untouched(x);
        for (int number : new int[] {1, 255, 256, 65536, 1 << 24, Integer.MIN_VALUE, -1}) {
            DUE.yes("number " + number, comes(x, Tapes.packet(1, 0, 3, number, 2, 100, 5), 255));
        }
    }

    private static void findsItsSessionByNumber() {
        DUE.sentence("the number meant (the REMOTE number in the packet) is that of a session of the router");
        for (int state = 0; state < 4; state++) {
            for (int station : new int[] {0, 1, 2, 4, 9, 14}) {
                StandInLan x = fresh();
                x.open(0, 4, 10, 10, 3);
                Tapes.bytes(x, Tapes.packet(state, 0, 3, 99, 2, 100, 5));
                DUE.yes("from " + station, x.arrive(0, 2, station, 255, 0));
                DUE.is("REMOTE number", x.session(0, 1, 2), 99);
                DUE.is("REMOTE number of the other session", x.session(0, 4, 2), 0);
            }
        }
        StandInLan x = fresh();
        for (int number : new int[] {1, 3, 4, 5, 6, 17, 18, 258, 65538, 2 << 24, Integer.MIN_VALUE + 2, -1}) {
            DUE.no("number " + number, comes(x, Tapes.packet(1, 32, 3, 99, number, 100, 5), 255));
        }
        untouched(x);
    }

    private static void findsItsSessionByStation() {
        DUE.sentence("or it is 0, the state in it (the second byte / 64) is ADMIN or DOWN, and the router has a session with ..");
        for (int state = 0; state < 4; state++) {
            for (int station = 0; station < 15; station++) {
                StandInLan x = fresh();
                x.open(0, 4, 10, 10, 3);
                Tapes.bytes(x, Tapes.packet(state, 0, 3, 99, 0, 100, 5));
                boolean due = state < 2 && (station == 1 || station == 4);
                DUE.is("state " + state + " from " + station, x.arrive(0, 2, station, 255, 0) ? 1 : 0, due ? 1 : 0);
                DUE.is("REMOTE number of 1", x.session(0, 1, 2), due && station == 1 ? 99 : 0);
                DUE.is("REMOTE number of 4", x.session(0, 4, 2), due && station == 4 ? 99 : 0);
            }
        }
        // The highest bits of the second byte are the state, whatever the lower ones are.
        StandInLan x = fresh();
        DUE.yes("127 less the bits 4 and 1", comes(x, with(Tapes.packet(1, 0, 3, 99, 0, 100, 5), 1, 122), 255));
        DUE.no("128", comes(x, with(Tapes.packet(1, 0, 3, 99, 0, 100, 5), 1, 128), 255));
    }

    private static void numbersAbove100000CountAs100000() {
        DUE.sentence("(numbers above 100000, without a sign, count as 100000)");
        int[][] rows = {{0, 0}, {1, 1}, {99999, 99999}, {100000, 100000}, {100001, 100000}, {Integer.MAX_VALUE, 100000},
            {Integer.MIN_VALUE, 100000}, {-100000, 100000}, {-1, 100000}};
        for (int[] row : rows) {
            StandInLan x = fresh();
            tells(x, 3, 0, 1, row[0], 7);
            DUE.is("ITS TX told " + row[0], x.session(0, 1, 10), row[1]);
            DUE.is("DETECT", x.session(0, 1, 5), Math.max(10, row[1]));
            DUE.is("ITS RX", x.session(0, 1, 9), 7);
            tells(x, 3, 0, 1, 7, row[0]);
            DUE.is("ITS RX told " + row[0], x.session(0, 1, 9), row[1]);
            if (row[0] != 0) {
                comes(x, Tapes.packet(3, 0, 1, row[0], 2, 7, 7), 255);
                DUE.is("REMOTE number told " + row[0], x.session(0, 1, 2), row[1]);
            }
        }
    }

    private static void finalBitsCountIfItPolls() {
        DUE.sentence("If it POLLS and the final bit is set: it POLLS no more, TX and RX as they are come to be in use.");
        StandInLan x = Tapes.withSession(3, 50, 60, 3);
        x.change(0, 1, 70, 20);
        for (int bits : new int[] {0, 32, 8, 2}) {
            tells(x, 3, bits, 3, 1, 1);
            DUE.session(x, 0, 1, 3, 3, 17, 0, 50, 180, 50, 60, 1);
        }
        tells(x, 3, 16, 3, 1, 1);
        // DETECT is already by the RX that came to be in use.
        DUE.session(x, 0, 1, 3, 3, 17, 0, 50, 60, 70, 20, 0);
        StandInLan y = Tapes.withSession(3, 50, 60, 3);
        tells(y, 3, 16, 3, 1, 1);
        DUE.session(y, 0, 1, 3, 3, 17, 0, 50, 180, 50, 60, 0);
        StandInLan z = Tapes.withSession(3, 50, 60, 3);
        z.change(0, 1, 70, 20);
        z.change(0, 1, 0, 0);
        tells(z, 3, 16, 3, 1, 1);
        DUE.session(z, 0, 1, 0, 3, 17, 7, 50, 180, 50, 60, 0);
    }

    private static void detectIsTheGreaterOneTimesTheMultiplier() {
        DUE.sentence("DETECT is set to ITS MULTIPLIER * the greater of the RX in use and ITS TX");
        int[][] rows = {{1, 1, 0, 1}, {1, 255, 0, 255}, {10, 3, 9, 30}, {10, 3, 10, 30}, {10, 3, 11, 33}, {1000, 2, 0, 2000},
            {1000, 2, 1001, 2002}};
        for (int[] row : rows) {
            StandInLan x = Tapes.withSession(1, 10, row[0], 77);
            tells(x, 3, 0, row[1], row[2], 1);
            DUE.is("DETECT of RX " + row[0] + ", " + row[1] + ", " + row[2], x.session(0, 1, 5), row[3]);
        }
    }

    private static void detectIsTenMillionAtMost() {
        DUE.sentence("(10000000 at most)");
        int[][] rows = {{100, 99999, 9999900}, {100, 100000, 10000000}, {101, 99009, 9999909}, {101, 99010, 10000000},
            {101, 100000, 10000000}, {255, 39215, 9999825}, {255, 39216, 10000000}, {255, -1, 10000000},
            {99, -1, 9900000}};
        for (int[] row : rows) {
            StandInLan x = fresh();
            tells(x, 3, 0, row[0], row[1], 1);
            DUE.is("DETECT of " + row[0] + " * " + row[1], x.session(0, 1, 5), row[2]);
        }
    }

    private static void toldAdminItFallsFromInitAndUp() {
        DUE.sentence("the state told is ADMIN: if it is INIT or UP: DIAGNOSIS 3, DOWN.");
        int[] next = {0, 1, 1, 1};
        int[] why = {7, 0, 3, 3};
        for (int state = 0; state < 4; state++) {
            StandInLan x = Tapes.withSession(state, 10, 10, 3);
            tells(x, 0, 0, 3, 100, 1);
            DUE.session(x, 0, 1, next[state], 0, 17, why[state]);
        }
    }

    private static void statesFollowWhatIsTold() {
        DUE.sentence("DOWN: told DOWN: INIT; told INIT: UP. INIT: told INIT or UP: UP. UP: told DOWN: DIAGNOSIS 3, DOWN.");
        int[][] next = {{2, 3, 1}, {2, 3, 3}, {1, 3, 3}};
        for (int state = 1; state < 4; state++) {
            for (int told = 1; told < 4; told++) {
                StandInLan x = Tapes.withSession(state, 10, 10, 3);
                tells(x, told, 0, 3, 100, 1);
                int due = next[state - 1][told - 1];
                DUE.session(x, 0, 1, due, told, 17, state == 3 && told == 1 ? 3 : 0);
                DUE.is("came to be UP", x.session(0, 1, 11), state == 3 || due == 3 ? 1 : 0);
            }
        }
        // What was diagnosed stays when it comes UP again.
        StandInLan x = Tapes.withSession(3, 10, 10, 3);
        tells(x, 1, 0, 3, 100, 1);
        tells(x, 2, 0, 3, 100, 1);
        DUE.session(x, 0, 1, 3, 2, 17, 3);
        DUE.is("came to be UP twice", x.session(0, 1, 11), 2);
    }

    private static void adminStays() {
        DUE.sentence("Then, unless its STATE is ADMIN");
        for (int told = 0; told < 4; told++) {
            StandInLan x = Tapes.withSession(0, 10, 10, 3);
            DUE.yes("it comes to the session all the same", tells(x, told, 0, 3, 40, 8));
            DUE.session(x, 0, 1, 0, told, 17, 7, 100, 120, 10, 10, 0, 8, 40, 0);
        }
    }

    private static void pollsAreAnsweredInAnyState() {
        DUE.sentence("Then, whatever its STATE is: if the poll bit is set, a packet with the final bit (and no poll bit) goes at once.");
        int[] second = {0, 128, 128, 64};
        for (int state = 0; state < 4; state++) {
            for (int bits : new int[] {0, 16, 32, 48}) {
                StandInLan x = Tapes.withSession(state, 10, 10, 3);
                if (state == 3) {
                    x.change(0, 1, 20, 5);
                }
                tells(x, 1, bits, 3, 100, 1);
                DUE.is("flying() with bits " + bits, x.flying(), bits / 32);
                DUE.is("the answer in STATE " + state, x.frame(0, 1), bits < 32 ? StandInLan.NONE : second[state] + 16);
            }
        }
    }

    private static void sendIsSetIfSomethingChanged() {
        DUE.sentence("If ITS RX or its STATE changed: SEND is set");
        // Nothing changed: SEND goes on as it was.
        StandInLan x = Tapes.withSession(3, 50, 60, 3);
        x.tick(20);
        tells(x, 3, 0, 3, 7, 1);
        DUE.is("SEND, nothing changed", x.session(0, 1, 4), 30);
        // STATE changed to UP: a TX below 100 counts from now on.
        StandInLan y = Tapes.withSession(2, 50, 60, 3);
        y.tick(20);
        DUE.is("SEND in INIT", y.session(0, 1, 4), 80);
        tells(y, 3, 0, 3, 100, 1);
        DUE.is("SEND in UP", y.session(0, 1, 4), 50);
        // ITS RX changed to a lesser one.
        StandInLan z = Tapes.withSession(3, 50, 60, 3);
        tells(z, 3, 0, 255, 100, 900);
        z.tick(50);
        DUE.is("SEND by ITS RX", z.session(0, 1, 4), 900);
        tells(z, 3, 0, 255, 100, 899);
        DUE.is("SEND by a lesser one", z.session(0, 1, 4), 899);
        // From 0 on SEND was off, so it is set to the whole.
        tells(z, 3, 0, 255, 100, 0);
        tells(z, 3, 0, 255, 100, 5000);
        DUE.is("SEND is on again", z.session(0, 1, 4), 5000);
    }

    private static void sendIsNotSetIfLessIsLeft() {
        DUE.sentence("but not if it is on and has less left than that");
        for (int itsRx : new int[] {898, 899, 900, 901, 100000}) {
            StandInLan x = Tapes.withSession(3, 50, 60, 3);
            tells(x, 3, 0, 255, 100, 1000);
            x.tick(150);
            DUE.is("SEND", x.session(0, 1, 4), 900);
            tells(x, 3, 0, 255, 100, itsRx);
            DUE.is("SEND with ITS RX " + itsRx, x.session(0, 1, 4), Math.min(900, itsRx));
        }
        // Falling from UP makes the pause longer, but what is left stays.
        StandInLan y = Tapes.withSession(3, 50, 60, 3);
        y.tick(1);
        tells(y, 1, 0, 3, 100, 1);
        DUE.session(y, 0, 1, 1, 1, 17, 3, 49);
    }

    private static void sendIsOffInAnyCaseIfItsRxIsZero() {
        DUE.sentence("(if ITS RX is 0 it is off in any case)");
        for (int state = 0; state < 4; state++) {
            for (int told = 0; told < 4; told++) {
                StandInLan x = Tapes.withSession(state, 50, 60, 3);
                x.tick(1);
                tells(x, told, 0, 3, 100, 0);
                DUE.is("SEND in " + state + " told " + told, x.session(0, 1, 4), 0);
            }
        }
        StandInLan x = Tapes.withSession(1, 50, 60, 3);
        tells(x, 3, 0, 3, 100, 0);
        tells(x, 1, 0, 3, 100, 0);
        DUE.session(x, 0, 1, 2, 1, 17, 0, 0);
        tells(x, 2, 0, 3, 100, 0);
        DUE.session(x, 0, 1, 3, 2, 17, 0, 0);
    }

    private static void detectFires() {
        DUE.sentence("DETECT fires: REMOTE number 0; in INIT and UP: DIAGNOSIS 1, DOWN.");
        int[] next = {0, 1, 1, 1};
        int[] why = {7, 0, 1, 1};
        for (int state = 0; state < 4; state++) {
            StandInLan x = Tapes.withSession(state, 1000, 20, 3);
            int told = state == 2 ? 1 : 3;
            tells(x, told, 0, 1, 1, 1);
            x.tick(19);
            DUE.session(x, 0, 1, state, told, 17, state == 0 ? 7 : 0, 981, 1);
            x.tick(1);
            DUE.session(x, 0, 1, next[state], told, 0, why[state], 980, 0, 1000, 20, 0, 1, 1, state == 3 ? 1 : 0);
            x.tick(20);
            DUE.session(x, 0, 1, next[state], told, 0, why[state], 960, 0);
        }
    }

    private static void changedOnesAreInUseAtOnceUnlessUp() {
        DUE.sentence("CHANGED (..): in any STATE but UP they come to be in use at once.");
        for (int state = 1; state < 3; state++) {
            for (int[] rates : new int[][] {{1, 1}, {49, 59}, {50, 60}, {51, 61}, {1000, 1000}}) {
                StandInLan x = Tapes.withSession(state, 50, 60, 3);
                x.change(0, 1, rates[0], rates[1]);
                DUE.is("STATE", x.session(0, 1, 0), state);
                DUE.is("TX in use", x.session(0, 1, 6), rates[0]);
                DUE.is("RX in use", x.session(0, 1, 7), rates[1]);
                DUE.is("POLLS", x.session(0, 1, 8), 0);
            }
        }
    }

    private static void changedInUpByItsSide() {
        DUE.sentence("In UP: it POLLS from now on; a TX that is not above that in use, an RX that is not below that in use ..");
        for (int tx : new int[] {1, 49, 50, 51, 1000}) {
            for (int rx : new int[] {1, 59, 60, 61, 1000}) {
                StandInLan x = Tapes.withSession(3, 50, 60, 3);
                x.change(0, 1, tx, rx);
                DUE.is("POLLS", x.session(0, 1, 8), 1);
                DUE.is("TX in use of " + tx, x.session(0, 1, 6), Math.min(50, tx));
                DUE.is("RX in use of " + rx, x.session(0, 1, 7), Math.max(60, rx));
                DUE.is("DETECT is not set", x.session(0, 1, 5), 300);
                tells(x, 3, 16, 3, 1, 1);
                DUE.session(x, 0, 1, 3, 3, 17, 0, Math.min(50, tx), 3 * rx, tx, rx, 0);
            }
        }
    }

    private static void changedSetsSendLikewise() {
        DUE.sentence("SEND is set likewise.");
        for (int tx : new int[] {1, 29, 30, 31, 50, 51}) {
            StandInLan x = Tapes.withSession(3, 50, 60, 3);
            x.tick(20);
            x.change(0, 1, tx, 60);
            DUE.is("SEND in UP with TX " + tx, x.session(0, 1, 4), Math.min(30, tx));
        }
        for (int tx : new int[] {1, 100, 129, 130, 131, 1000}) {
            StandInLan x = Tapes.withSession(1, 150, 60, 3);
            x.tick(20);
            x.change(0, 1, tx, 60);
            DUE.is("SEND in DOWN with TX " + tx, x.session(0, 1, 4), Math.max(100, Math.min(130, tx)));
        }
        StandInLan x = Tapes.withSession(3, 50, 60, 3);
        tells(x, 3, 0, 3, 100, 0);
        x.change(0, 1, 1, 60);
        DUE.is("SEND stays off if ITS RX is 0", x.session(0, 1, 4), 0);
    }

    private static void shutOnesGoOnSending() {
        DUE.sentence("SHUT (ADMIN): STATE ADMIN, DIAGNOSIS 7, no poll. It goes on sending. It is left by opening it anew.");
        for (int state = 1; state < 4; state++) {
            StandInLan x = Tapes.withSession(state, 150, 60, 3);
            if (state == 3) {
                x.change(0, 1, 160, 50);
            }
            int ups = x.session(0, 1, 11);
            x.tick(20);
            int detect = x.session(0, 1, 5);
            int number = x.session(0, 1, 2);
            int remote = x.session(0, 1, 1);
            x.change(0, 1, 0, 0);
            DUE.session(x, 0, 1, 0, remote, number, 7, 130, detect, 150, 60, 0, 1, x.session(0, 1, 10), ups);
            x.tick(130);
            DUE.is("sent", x.router(0, 6), 1);
            DUE.is("what is told", x.frame(0, 1), 0);
            DUE.is("SEND", x.session(0, 1, 4), 150);
            DUE.untimely("change(0, 1, 10, 10)", () -> x.change(0, 1, 10, 10));
            x.open(0, 1, 10, 10, 3);
            DUE.session(x, 0, 1, 1, 1, 0, 0, 100, 0, 10, 10, 0, 1, 0, 0);
        }
    }
}
