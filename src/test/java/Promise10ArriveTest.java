/** Promise 10: arrive, with all that keeps a packet from being taken. */
public final class Promise10ArriveTest {
    private static final Due DUE = new Due("Promise10ArriveTest");

    public static void main(String[] args) {
        advertisementsAreLookedAt();
        checksAreLookedAt();
        packetsAreLookedAt();
        packetsFindTheirSession();
        lengthsOfPacketsHold();
        theTapeIsUsedUp();
        lossDoesNotMatter();
        wrongCallsAreRefused();
        DUE.end();
    }

    private static boolean comesWith(StandInLan x, int[] row, int hops, int address) {
        Tapes.bytes(x, row);
        return x.arrive(0, 1, 9, hops, address);
    }

    private static int[] summed(int[] row, int address) {
        row[6] = 0;
        row[7] = 0;
        long check = 65535 - Tapes.sum(row, address);
        row[6] = (int) (check >>> 8);
        row[7] = (int) (check & 255);
        return row;
    }

    private static void advertisementsAreLookedAt() {
        StandInLan x = new StandInLan();
        x.start(0);
        x.tick(10);
        int[] good = Tapes.advertisement(1, 200, 50, Tapes.VIRTUAL, 77);
        DUE.no("HOPS 254", comesWith(x, good, 254, 77));
        DUE.no("HOPS 0", comesWith(x, good, 0, 77));
        DUE.no("another ADDRESS", comesWith(x, good, 255, 78));
        for (int at : new int[] {0, 1, 3, 8, 9, 10, 11}) {
            for (int step : new int[] {1, 255}) {
                int[] row = good.clone();
                row[at] = row[at] + step & 255;
                DUE.no("byte " + at + " is " + row[at], comesWith(x, summed(row, 77), 255, 77));
            }
        }
        for (int at = 0; at < 12; at++) {
            int[] row = good.clone();
            row[at] ^= 1;
            DUE.no("byte " + at + " is not what the CHECK says", comesWith(x, row, 255, 77));
        }
        DUE.no("nothing on the tape", x.arrive(0, 1, 9, 255, 77));
        Tapes.bytes(x, good);
        x.type(0, 1);
        DUE.no("13 bytes", x.arrive(0, 1, 9, 255, 77));
        Tapes.bytes(x, good);
        x.type(0, 2);
        DUE.no("14 bytes", x.arrive(0, 1, 9, 255, 77));
        for (int i = 0; i < 11; i++) {
            x.type(good[i], 1);
        }
        DUE.no("11 bytes", x.arrive(0, 1, 9, 255, 77));
        x.set(0, 0, 255);
        DUE.no("PRIORITY 255", comesWith(x, good, 255, 77));
        x.set(0, 0, 100);
        DUE.router(x, 0, 1, 350, 100, 100, 0, 0, 0, 0);
        for (int station = 0; station < 15; station++) {
            Tapes.bytes(x, good);
            DUE.yes("from station " + station, x.arrive(0, 1, station, 255, 77));
        }
        DUE.router(x, 0, 1, 180, 100, 50, 0, 15, 0, 0);
        x.set(0, 3, 255);
        x.set(0, 5, -1);
        DUE.yes("another GROUP and VIRTUAL", comesWith(x, Tapes.advertisement(255, 200, 9, -1, 1 << 31), 255, 1 << 31));
        DUE.is("the switch learns nothing by that", x.port(9), StandInLan.NONE);
    }

    private static void checksAreLookedAt() {
        StandInLan x = new StandInLan();
        x.start(0);
        int[] row = Tapes.advertisement(1, 255, 100, Tapes.VIRTUAL, 58393);
        DUE.is("the CHECK's first byte", row[6], 0);
        DUE.is("the CHECK's second byte", row[7], 0);
        DUE.yes("CHECK 0", comesWith(x, row, 255, 58393));
        row[6] = 255;
        row[7] = 255;
        DUE.yes("CHECK 65535 has the same SUM", comesWith(x, row, 255, 58393));
        x.set(1, 0, 255);
        x.set(1, 4, 58393);
        x.start(1);
        DUE.is("of two the lesser one is sent", x.frame(0, 6) * 256 + x.frame(0, 7), 0);
        DUE.yes("a high ADDRESS", Tapes.advertise(x, 0, 1, 65535, -1));
        DUE.yes("a low ADDRESS", Tapes.advertise(x, 0, 255, 0, 0));
    }

    private static StandInLan withSessions() {
        StandInLan x = new StandInLan();
        x.start(0);
        x.open(0, 1, 10, 10, 3);
        x.open(0, 3, 10, 10, 3);
        return x;
    }

    private static boolean comes(StandInLan x, int station, int[] row) {
        Tapes.bytes(x, row);
        return x.arrive(0, 2, station, 255, 0);
    }

    private static int[] with(int[] row, int at, int value) {
        int[] other = row.clone();
        other[at] = value;
        return other;
    }

    private static void packetsAreLookedAt() {
        StandInLan x = withSessions();
        int[] good = Tapes.packet(1, 32, 3, 17, 2, 100, 5);
        Tapes.bytes(x, good);
        DUE.no("HOPS 254", x.arrive(0, 2, 1, 254, 0));
        for (int first : new int[] {0, 31, 64, 96, 255}) {
            DUE.no("the first byte is " + first, comes(x, 1, with(good, 0, first)));
        }
        for (int fourth : new int[] {0, 23, 25, 255}) {
            DUE.no("the fourth byte is " + fourth, comes(x, 1, with(good, 3, fourth)));
        }
        DUE.no("the multiplier is 0", comes(x, 1, with(good, 2, 0)));
        for (int bits : new int[] {1, 4, 5}) {
            DUE.no("the second byte has " + bits, comes(x, 1, with(good, 1, good[1] | bits)));
        }
        DUE.no("the sender's number is 0", comes(x, 1, with(good, 7, 0)));
        DUE.session(x, 0, 1, 1, 1, 0, 0, 100, 0, 10, 10, 0, 1, 0, 0);
        DUE.is("a poll is not answered", x.router(0, 6), 0);
        for (int first : new int[] {32, 40, 63}) {
            DUE.yes("the first byte is " + first, comes(x, 1, with(good, 0, first)));
        }
        for (int bits : new int[] {2, 8, 10}) {
            DUE.yes("the second byte has " + bits, comes(x, 1, with(good, 1, good[1] | bits)));
        }
        for (int at = 4; at < 8; at++) {
            DUE.yes("the sender's number is not 0", comes(x, 1, with(with(good, 7, 0), at, 128)));
        }
        DUE.is("polls are answered", x.router(0, 6), 10);
    }

    private static void packetsFindTheirSession() {
        for (int state = 0; state < 4; state++) {
            StandInLan x = withSessions();
            boolean came = comes(x, 1, Tapes.packet(state, 0, 3, 99, 0, 100, 5));
            DUE.is("number 0, state " + state, came ? 1 : 0, state < 2 ? 1 : 0);
            DUE.is("REMOTE number", x.session(0, 1, 2), state < 2 ? 99 : 0);
            DUE.is("REMOTE number of the other session", x.session(0, 3, 2), 0);
        }
        StandInLan x = withSessions();
        for (int station : new int[] {0, 2, 4, 5, 9, 14}) {
            DUE.no("number 0 from " + station, comes(x, station, Tapes.packet(1, 0, 3, 99, 0, 100, 5)));
        }
        for (int number : new int[] {1, 3, 5, 6, 17, 18, 20, 258, 1 << 24, -1, 0x01000002}) {
            DUE.no("number " + number, comes(x, 1, Tapes.packet(1, 0, 3, 99, number, 100, 5)));
        }
        DUE.session(x, 0, 1, 1, 1, 0, 0, 100, 0, 10, 10, 0, 1, 0, 0);
        DUE.session(x, 0, 3, 1, 1, 0, 0, 100, 0, 10, 10, 0, 1, 0, 0);
        DUE.yes("number 4 from station 14", comes(x, 14, Tapes.packet(2, 0, 3, 99, 4, 100, 5)));
        DUE.is("STATE", x.session(0, 3, 0), 3);
        DUE.is("STATE of the other session", x.session(0, 1, 0), 1);
        StandInLan y = new StandInLan();
        y.start(4);
        y.open(4, 3, 10, 10, 3);
        Tapes.bytes(y, Tapes.packet(2, 0, 3, 99, 68, 100, 5));
        DUE.yes("number 68 of router 4", y.arrive(4, 2, 9, 255, 0));
        y.stop(4, false);
        y.start(4);
        Tapes.bytes(y, Tapes.packet(2, 0, 3, 99, 68, 100, 5));
        DUE.no("number 68 when the session is gone", y.arrive(4, 2, 9, 255, 0));
    }

    private static void lengthsOfPacketsHold() {
        StandInLan x = withSessions();
        int[] good = Tapes.packet(1, 0, 3, 17, 2, 100, 5);
        for (int i = 0; i < 23; i++) {
            x.type(good[i], 1);
        }
        DUE.no("23 bytes", x.arrive(0, 2, 1, 255, 0));
        DUE.no("no bytes", x.arrive(0, 2, 1, 255, 0));
        int[] cases = {23, 0, 24, 1, 31, 1, 32, 1, 33, 0};
        for (int i = 0; i < cases.length; i += 2) {
            Tapes.bytes(x, with(good, 3, cases[i]));
            x.type(-1, 8);
            DUE.is("32 bytes, told " + cases[i], x.arrive(0, 2, 1, 255, 0) ? 1 : 0, cases[i + 1]);
        }
    }

    private static void theTapeIsUsedUp() {
        StandInLan x = new StandInLan();
        x.start(0);
        Tapes.bytes(x, Tapes.advertisement(1, 200, 50, Tapes.VIRTUAL, 77));
        DUE.outside("arrive(5, 1, 9, 255, 77)", () -> x.arrive(5, 1, 9, 255, 77));
        DUE.unfit("arrive(0, 3, 9, 255, 77)", () -> x.arrive(0, 3, 9, 255, 77));
        DUE.untimely("arrive(1, 1, 9, 255, 77)", () -> x.arrive(1, 1, 9, 255, 77));
        DUE.yes("an exception leaves the tape", x.arrive(0, 1, 9, 255, 77));
        DUE.no("the tape is empty", x.arrive(0, 1, 9, 255, 77));
        x.type(0, 8);
        DUE.no("not taken", x.arrive(0, 1, 9, 255, 77));
        DUE.yes("the tape was empty again", Tapes.advertise(x, 0, 200, 50, 77));
        for (int i = 0; i < 5; i++) {
            DUE.yes("type of 8 bytes", x.type(0, 8));
        }
        DUE.no("a packet of 40 bytes", x.arrive(0, 2, 0, 255, 0));
    }

    private static void lossDoesNotMatter() {
        StandInLan x = withSessions();
        x.set(0, 7, 3);
        DUE.yes("an advertisement", Tapes.advertise(x, 0, 200, 50, 77));
        DUE.yes("a packet that polls", Tapes.tell(x, 0, 1, 1, 32, 100, 5));
        DUE.is("sent, but lost", x.router(0, 6), 1);
        DUE.is("flying()", x.flying(), 0);
    }

    private static void wrongCallsAreRefused() {
        StandInLan x = withSessions();
        for (int r : new int[] {-1, 5, Integer.MIN_VALUE, Integer.MAX_VALUE}) {
            DUE.outside("arrive(" + r + ", 1, 0, 255, 0)", () -> x.arrive(r, 1, 0, 255, 0));
            DUE.outside("arrive(" + r + ", 9, 99, 999, 0)", () -> x.arrive(r, 9, 99, 999, 0));
        }
        for (int kind : new int[] {0, 3, 4, -1, Integer.MIN_VALUE, Integer.MAX_VALUE}) {
            DUE.unfit("arrive(0, " + kind + ", 0, 255, 0)", () -> x.arrive(0, kind, 0, 255, 0));
            DUE.unfit("arrive(1, " + kind + ", 0, 255, 0) of one OFF", () -> x.arrive(1, kind, 0, 255, 0));
        }
        for (int station : new int[] {-1, 15, 16, Integer.MIN_VALUE, Integer.MAX_VALUE}) {
            DUE.unfit("arrive(0, 1, " + station + ", 255, 0)", () -> x.arrive(0, 1, station, 255, 0));
            DUE.unfit("arrive(1, 2, " + station + ", 255, 0)", () -> x.arrive(1, 2, station, 255, 0));
        }
        for (int hops : new int[] {-1, 256, Integer.MIN_VALUE, Integer.MAX_VALUE}) {
            DUE.unfit("arrive(0, 2, 0, " + hops + ", 0)", () -> x.arrive(0, 2, 0, hops, 0));
        }
        DUE.untimely("arrive(1, 1, 0, 0, 0)", () -> x.arrive(1, 1, 0, 0, 0));
        DUE.untimely("arrive(4, 2, 14, 255, 0)", () -> x.arrive(4, 2, 14, 255, 0));
        DUE.no("arrive(0, 2, 14, 0, 0)", x.arrive(0, 2, 14, 0, 0));
    }
}
