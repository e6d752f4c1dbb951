/** Each setting at both ends of its range and one step beyond, seen by what it does. */
public final class EdgesOfSettingsTest {
    private static final Due DUE = new Due("EdgesOfSettingsTest");
    private static final int OWN = 167772160;
    private static final int[] FAR = {Integer.MIN_VALUE, -1000000, 1000000, Integer.MAX_VALUE};

    public static void main(String[] args) {
        priority();
        interval();
        preempt();
        group();
        address();
        virtual();
        delay();
        loss();
        weight();
        tracked();
        settingsAreKeptWhenOff();
        settingsCountFromNowOn();
        DUE.end();
    }

    /** What lies beyond the range is refused, and the value that was set before stays. */
    private static void refused(StandInLan x, int what, int below, int above) {
        DUE.unfit("set(0, " + what + ", " + below + ")", () -> x.set(0, what, below));
        DUE.unfit("set(0, " + what + ", " + above + ")", () -> x.set(0, what, above));
        for (int v : FAR) {
            DUE.unfit("set(0, " + what + ", " + v + ")", () -> x.set(0, what, v));
        }
    }

    private static StandInLan with(int what, int v, int below, int above) {
        StandInLan x = new StandInLan();
        x.set(0, what, v);
        refused(x, what, below, above);
        return x;
    }

    private static void priority() {
        DUE.sentence("0 PRIORITY, 1 .. 255 (100 at first)");
        for (int v : new int[] {1, 2, 100, 254, 255}) {
            StandInLan x = with(0, v, 0, 256);
            x.start(0);
            DUE.is("WEIGHED", x.router(0, 2), v);
            DUE.is("state", x.router(0, 0), v == 255 ? 2 : 1);
        }
        StandInLan x = new StandInLan();
        x.start(0);
        DUE.is("WEIGHED at first", x.router(0, 2), 100);
    }

    private static void interval() {
        DUE.sentence("1 INTERVAL, 1 .. 4095 (100)");
        for (int v : new int[] {1, 2, 4094, 4095}) {
            StandInLan x = with(1, v, 0, 4096);
            x.set(0, 0, 255);
            x.start(0);
            DUE.router(x, 0, 2, v, 255, v);
            DUE.is("sent", x.frame(0, 4) * 256 + x.frame(0, 5), v);
        }
        StandInLan x = new StandInLan();
        x.start(0);
        DUE.is("known at first", x.router(0, 3), 100);
    }

    private static void preempt() {
        DUE.sentence("2 PREEMPT, 0 or 1 (1)");
        for (int v = -1; v < 2; v++) {
            // With -1 it is left as it was at first.
            StandInLan x = v < 0 ? new StandInLan() : with(2, v, -1, 2);
            x.start(0);
            x.tick(5);
            Tapes.advertise(x, 0, 99, 100, 1);
            DUE.is("the timer with PREEMPT " + v, x.router(0, 1), v == 0 ? 360 : 355);
        }
    }

    private static void group() {
        DUE.sentence("3 GROUP, 1 .. 255 (1)");
        for (int v : new int[] {1, 2, 254, 255}) {
            StandInLan x = with(3, v, 0, 256);
            x.set(0, 0, 255);
            x.start(0);
            DUE.is("sent", x.frame(0, 1), v);
            x.set(0, 0, 100);
            for (int told : new int[] {0, 1, 2, 254, 255}) {
                Tapes.bytes(x, Tapes.advertisement(told, 50, 100, Tapes.VIRTUAL, 1));
                DUE.is("taken", x.arrive(0, 1, 9, 255, 1) ? 1 : 0, told == v ? 1 : 0);
            }
        }
        StandInLan x = new StandInLan();
        x.set(0, 0, 255);
        x.start(0);
        DUE.is("sent at first", x.frame(0, 1), 1);
    }

    private static void address() {
        DUE.sentence("4 ADDRESS, any int, without a sign (167772160 + r)");
        for (int v : new int[] {Integer.MIN_VALUE, -1, 0, 1, Integer.MAX_VALUE}) {
            StandInLan x = new StandInLan();
            x.set(0, 0, 255);
            x.set(0, 4, v);
            x.start(0);
            x.start(1);
            x.tick(1);
            DUE.is("taken with ADDRESS " + v, x.router(1, 5), 1);
            x.ask(1);
            x.tick(2);
            DUE.is("noted", x.router(1, 7), v);
        }
        for (int r = 0; r < 5; r++) {
            StandInLan x = new StandInLan();
            x.set(r, 0, 255);
            x.start(r);
            x.start((r + 1) % 5);
            x.ask((r + 1) % 5);
            x.tick(2);
            DUE.is("noted at first", x.router((r + 1) % 5, 7), OWN + r);
        }
    }

    private static void virtual() {
        DUE.sentence("5 VIRTUAL, any int (167772400)");
        for (int v : new int[] {Integer.MIN_VALUE, -1, 0, 1, Integer.MAX_VALUE}) {
            StandInLan x = new StandInLan();
            x.set(0, 0, 255);
            x.set(0, 5, v);
            x.start(0);
            DUE.frame(x, 0, new int[] {1, 1, 9, 15, 12, 30}, Tapes.advertisement(1, 255, 100, v, OWN));
            x.set(1, 5, v);
            x.start(1);
            x.start(2);
            x.tick(1);
            DUE.is("taken by one with the same VIRTUAL", x.router(1, 5), 1);
            DUE.is("taken by one with another", x.router(2, 5), 0);
        }
        StandInLan x = new StandInLan();
        x.start(0);
        DUE.yes("taken at first", Tapes.advertise(x, 0, 200, 9, 1));
    }

    private static void delay() {
        DUE.sentence("6 DELAY, 1 .. 50 (1)");
        for (int v : new int[] {1, 2, 49, 50}) {
            StandInLan x = with(6, v, 0, 51);
            x.start(0);
            x.ask(0);
            DUE.is("ticks left", x.frame(0, -1), v);
        }
        StandInLan x = new StandInLan();
        x.start(0);
        x.ask(0);
        DUE.is("ticks left at first", x.frame(0, -1), 1);
    }

    private static void loss() {
        DUE.sentence("7 LOSS, 0 .. 3 (0)");
        for (int v = -1; v < 4; v++) {
            StandInLan x = v < 0 ? new StandInLan() : with(7, v, -1, 4);
            x.start(0);
            x.ask(0);
            DUE.is("flying() with LOSS " + v, x.flying(), v == 1 || v == 3 ? 0 : 1);
            x.set(1, 0, 255);
            x.start(1);
            x.tick(1);
            DUE.is("taken with LOSS " + v, x.router(0, 5), v > 1 ? 0 : 1);
        }
    }

    private static void weight() {
        DUE.sentence("8 WEIGHT, 0 .. 254 (0)");
        for (int v : new int[] {0, 1, 99, 100, 253, 254}) {
            StandInLan x = with(8, v, -1, 255);
            x.set(0, 0, 254);
            x.set(0, 9, 2);
            x.start(0);
            x.open(0, 1, 1, 1, 1);
            DUE.is("WEIGHED", x.router(0, 2), Math.max(1, 254 - v));
        }
        StandInLan x = new StandInLan();
        x.set(0, 9, 2);
        x.start(0);
        x.open(0, 1, 1, 1, 1);
        DUE.is("WEIGHED at first", x.router(0, 2), 100);
    }

    private static void tracked() {
        DUE.sentence("9 TRACKED, 0 .. 31: bits, of the sessions with these routers (0)");
        for (int v = 0; v < 32; v++) {
            StandInLan x = with(9, v, -1, 32);
            x.set(0, 8, 10);
            x.start(0);
            for (int s = 1; s < 5; s++) {
                x.open(0, s, 1, 1, 1);
            }
            // Bit 0 is router 0 itself, with which it has no session.
            DUE.is("WEIGHED with TRACKED " + v, x.router(0, 2), 100 - 10 * Integer.bitCount(v & 30));
        }
        StandInLan x = new StandInLan();
        x.set(4, 8, 10);
        x.start(4);
        for (int s = 0; s < 4; s++) {
            x.open(4, s, 1, 1, 1);
        }
        DUE.is("WEIGHED at first", x.router(4, 2), 100);
        x.set(4, 9, 31);
        DUE.is("WEIGHED by all", x.router(4, 2), 60);
        x.set(4, 9, 16);
        DUE.is("WEIGHED by itself", x.router(4, 2), 100);
    }

    private static void settingsAreKeptWhenOff() {
        DUE.sentence("A router has SETTINGS (these are kept when it is OFF)");
        int[] v = {255, 7, 0, 9, -3, -4, 3, 2, 5, 6};
        StandInLan x = new StandInLan();
        StandInLan y = new StandInLan();
        for (int what = 0; what < 10; what++) {
            x.set(2, what, v[what]);
        }
        x.start(2);
        x.stop(2, true);
        x.start(2);
        x.stop(2, false);
        x.set(2, 0, 254);
        x.start(2);
        for (int what = 0; what < 10; what++) {
            y.set(2, what, what == 0 ? 254 : v[what]);
        }
        y.start(2);
        y.open(2, 1, 1, 1, 1);
        x.open(2, 1, 1, 1, 1);
        x.tick(30);
        y.tick(30);
        DUE.is("timer", x.router(2, 1), y.router(2, 1));
        DUE.is("WEIGHED", x.router(2, 2), 249);
        DUE.is("flying()", x.flying(), y.flying());
        for (int i = -6; i < 12; i++) {
            DUE.is("frame(0, " + i + ")", x.frame(0, i), y.frame(0, i));
        }
        DUE.yes("the advertisement is as set", x.frame(0, 1) == 9 && x.frame(0, 5) == 7 && x.frame(0, 11) == 252);
    }

    private static void settingsCountFromNowOn() {
        DUE.sentence("A setting of router r becomes v (it counts from now on; no timer is set by that).");
        StandInLan x = Tapes.withSession(3, 50, 60, 3);
        StandInLan y = Tapes.withSession(3, 50, 60, 3);
        int[] v = {99, 7, 0, 9, -3, -4, 3, 3, 0, 31};
        for (int what = 0; what < 10; what++) {
            x.set(0, what, v[what]);
        }
        DUE.is("timer", x.router(0, 1), 360);
        DUE.is("known", x.router(0, 3), 100);
        DUE.is("WEIGHED", x.router(0, 2), 99);
        for (int what = 0; what < 12; what++) {
            DUE.is("session(0, 1, " + what + ")", x.session(0, 1, what), y.session(0, 1, what));
        }
        for (int what = 0; what < 10; what++) {
            x.set(0, what, 1);
        }
        x.set(0, 0, 255);
        DUE.is("a BACKUP whose PRIORITY becomes 255 stays one", x.router(0, 0), 1);
        x.tick(359);
        DUE.is("a BACKUP whose PRIORITY becomes 255 stays one", x.router(0, 0), 1);
        x.tick(1);
        DUE.is("until its timer fires", x.router(0, 0), 2);
        DUE.is("the timer is the new INTERVAL", x.router(0, 1), 1);
    }
}
