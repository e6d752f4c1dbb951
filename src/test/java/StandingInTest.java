/** The document's part STANDING IN: what BACKUPs and ACTIVE ones do about advertisements, and weighing. */
public final class StandingInTest {
    private static final Due DUE = new Due("StandingInTest");
    private static final int OWN = 167772160;

    public static void main(String[] args) {
        backupsMindAdvertisements();
        intervalsAreKnown();
        activeOnesMindAdvertisements();
        sessionsWeigh();
        eachBitIsARouter();
        checksAreRightAtTheEdges();
        aStandInTakesOver();
        DUE.end();
    }

    private static void backupsMindAdvertisements() {
        int[][] rows = {{1, 0, 60, 100}, {1, 99, 350, 100}, {1, 100, 180, 50}, {1, 101, 180, 50}, {1, 255, 180, 50},
            {0, 0, 60, 100}, {0, 1, 180, 50}, {0, 99, 180, 50}, {0, 100, 180, 50}};
        for (int[] row : rows) {
            StandInLan x = new StandInLan();
            x.set(0, 2, row[0]);
            x.start(0);
            x.tick(10);
            DUE.yes("TAKEN", Tapes.advertise(x, 0, row[1], 50, OWN));
            DUE.router(x, 0, 1, row[2], 100, row[3], 0, 1, 0, 0);
        }
        StandInLan x = new StandInLan();
        x.set(0, 0, 254);
        x.set(0, 1, 127);
        x.start(0);
        Tapes.advertise(x, 0, 0, 50, 1);
        DUE.is("SKEW 0 counts as 1", x.router(0, 1), 1);
        x.tick(1);
        DUE.is("state", x.router(0, 0), 2);
    }

    private static void intervalsAreKnown() {
        int[][] rows = {{0, 1, 3}, {1, 1, 3}, {7, 7, 25}, {4095, 4095, 14780}, {4096, 1, 3}, {4096 + 7, 7, 25},
            {65535, 4095, 14780}, {256, 256, 924}};
        for (int[] row : rows) {
            StandInLan x = new StandInLan();
            x.start(0);
            Tapes.advertise(x, 0, 100, row[0], 1);
            DUE.router(x, 0, 1, row[2], 100, row[1], 0, 1, 0, 0);
            StandInLan y = new StandInLan();
            y.start(0);
            y.tick(360);
            Tapes.advertise(y, 0, 101, row[0], 1);
            DUE.router(y, 0, 1, row[2], 100, row[1], 1, 1, 2, 0);
            y.tick(2);
            Tapes.advertise(y, 0, 0, 500, 1);
            DUE.is("SKEW is of the interval known", y.router(0, 1), Math.max(1, 156 * row[1] / 256));
        }
    }

    private static StandInLan active() {
        StandInLan x = new StandInLan();
        x.start(0);
        x.tick(370);
        DUE.router(x, 0, 2, 90, 100, 100, 1, 0, 2, 0);
        return x;
    }

    private static void activeOnesMindAdvertisements() {
        int[][] rows = {
            {0, OWN + 1, 2, 100, 3}, {0, 0, 2, 100, 3},
            {99, OWN + 1, 2, 90, 3}, {1, -1, 2, 90, 3},
            {100, OWN - 1, 2, 90, 3}, {100, OWN, 2, 90, 3}, {100, 0, 2, 90, 3},
            {100, OWN + 1, 1, 180, 2}, {100, -1, 1, 180, 2}, {100, Integer.MIN_VALUE, 1, 180, 2},
            {101, 0, 1, 180, 2}, {255, OWN, 1, 180, 2}};
        for (int[] row : rows) {
            StandInLan x = active();
            DUE.yes("TAKEN", Tapes.advertise(x, 0, row[0], 50, row[1]));
            DUE.router(x, 0, row[2], row[3], 100, row[2] == 1 ? 50 : 100, 1, 1, row[4], 0);
            DUE.is("flying()", x.flying(), row[4] - 2);
            if (row[4] == 3) {
                DUE.frame(x, 0, new int[] {1, 1, 9, 15, 12, 30}, Tapes.advertisement(1, 100, 100, Tapes.VIRTUAL, OWN));
            }
        }
        StandInLan x = active();
        x.set(0, 4, -1);
        Tapes.advertise(x, 0, 100, 50, Integer.MAX_VALUE);
        DUE.is("its own ADDRESS has no sign either", x.router(0, 0), 2);
        x.set(0, 4, 7);
        Tapes.advertise(x, 0, 100, 50, 7);
        DUE.is("the same ADDRESS is not above", x.router(0, 0), 2);
        x.set(0, 2, 0);
        Tapes.advertise(x, 0, 101, 50, 0);
        DUE.is("PREEMPT does not count for an ACTIVE one", x.router(0, 0), 1);
    }

    private static void sessionsWeigh() {
        StandInLan x = Tapes.withSession(1, 10, 10, 3);
        x.open(0, 2, 10, 10, 3);
        x.set(0, 8, 30);
        x.set(0, 9, 2);
        DUE.is("one that is DOWN", x.router(0, 2), 70);
        x.set(0, 9, 6);
        DUE.is("two that are DOWN", x.router(0, 2), 40);
        x.set(0, 9, 31);
        DUE.is("those that it has not don't weigh", x.router(0, 2), 40);
        Tapes.tell(x, 0, 1, 1, 0, 10, 1);
        DUE.is("INIT", x.router(0, 2), 40);
        Tapes.tell(x, 0, 1, 2, 0, 10, 1);
        DUE.is("UP", x.router(0, 2), 70);
        x.change(0, 1, 0, 0);
        DUE.is("ADMIN", x.router(0, 2), 40);
        x.set(0, 8, 50);
        DUE.is("at least 1", x.router(0, 2), 1);
        x.set(0, 8, 254);
        DUE.is("at least 1", x.router(0, 2), 1);
        x.set(0, 0, 255);
        DUE.is("255 is not weighed", x.router(0, 2), 255);
        x.set(0, 0, 254);
        x.set(0, 8, 30);
        DUE.is("254 is", x.router(0, 2), 194);
        DUE.is("no timer is set by weighing", x.router(0, 1), 360);
        x.tick(10);
        Tapes.advertise(x, 0, 193, 128, 1);
        DUE.is("an advertisement below the WEIGHED priority", x.router(0, 1), 350);
        Tapes.advertise(x, 0, 194, 128, 1);
        DUE.is("one that is the same", x.router(0, 1), 415);
        Tapes.advertise(x, 0, 0, 128, 1);
        DUE.is("SKEW is by the WEIGHED priority", x.router(0, 1), 31);
        x.set(0, 6, 50);
        x.tick(31);
        DUE.is("state", x.router(0, 0), 2);
        DUE.is("the WEIGHED priority is sent", x.frame(0, 2), 194);
        Tapes.advertise(x, 0, 195, 128, 1);
        DUE.is("an ACTIVE one gives way by its WEIGHED priority", x.router(0, 0), 1);
    }

    private static void eachBitIsARouter() {
        for (int r = 0; r < 5; r++) {
            StandInLan x = new StandInLan();
            x.start(r);
            x.set(r, 8, 20);
            for (int s = 0; s < 5; s++) {
                if (s != r) {
                    x.open(r, s, 10, 10, 3);
                }
            }
            for (int s = 0; s < 5; s++) {
                x.set(r, 9, 1 << s);
                DUE.is("WEIGHED of " + r + " by the session with " + s, x.router(r, 2), s == r ? 100 : 80);
            }
            x.set(r, 9, 31);
            DUE.is("WEIGHED of " + r + " by all", x.router(r, 2), 20);
        }
    }

    /** Round ADDRESS 58393 the sum without a CHECK passes 65535 and a number whose upper part changes. */
    private static void checksAreRightAtTheEdges() {
        for (int low = 58385; low < 58405; low++) {
            for (int high : new int[] {0, 1, 65535}) {
                StandInLan x = new StandInLan();
                int address = high << 16 | low;
                x.set(0, 0, 255);
                x.set(0, 4, address);
                x.start(0);
                int[] row = Tapes.advertisement(1, 255, 100, Tapes.VIRTUAL, address);
                DUE.frame(x, 0, new int[] {1, 1, 9, 15, 12, 30}, row);
                x.start(1);
                x.tick(1);
                DUE.is("TAKEN by 1", x.router(1, 5), 1);
            }
        }
    }

    private static void aStandInTakesOver() {
        StandInLan x = new StandInLan();
        x.set(0, 0, 120);
        x.start(0);
        x.start(1);
        x.tick(354);
        DUE.router(x, 0, 2, 99, 120, 100, 1, 0, 2, 0);
        DUE.router(x, 1, 1, 359, 100, 100, 0, 1, 0, 0);
        x.stop(0, false);
        x.tick(1);
        DUE.router(x, 1, 1, 59, 100, 100, 0, 2, 0, 0);
        x.tick(59);
        DUE.router(x, 1, 2, 100, 100, 100, 1, 2, 2, 0);
        DUE.is("port(9)", x.port(9), 1);
        x.start(0);
        x.tick(353);
        DUE.is("the higher one takes it back", x.router(0, 0), 2);
        x.tick(1);
        DUE.is("the lower one gives way", x.router(1, 0), 1);
    }
}
