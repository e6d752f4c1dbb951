import java.util.function.Consumer;

/** The boundary cases in the promises 1 to 15: what is refused, and that a refused call changes nothing. */
public final class EdgesOfCallsTest {
    private static final Due DUE = new Due("EdgesOfCallsTest");
    private static final int[] NO_ROUTER = {-1, 5, 9, 15, Integer.MIN_VALUE, Integer.MAX_VALUE};
    private static final Class<IndexOutOfBoundsException> OUTSIDE = IndexOutOfBoundsException.class;
    private static final Class<IllegalArgumentException> UNFIT = IllegalArgumentException.class;
    private static final Class<IllegalStateException> UNTIMELY = IllegalStateException.class;

    public static void main(String[] args) {
        aNewObjectIsEmpty();
        setRefuses();
        startRefuses();
        stopRefuses();
        openRefuses();
        changeRefuses();
        changeShutsIfBothAreZero();
        askRefuses();
        tickRefuses();
        tickAnswersTheClock();
        typeTakesOneToEightBytes();
        typeTakesFortyInAll();
        typeTakesTheLowestBytes();
        arriveRefuses();
        arriveKeepsTheTapeWithAnException();
        arriveEmptiesTheTape();
        arriveTakesAllStationsAndHops();
        arriveDoesNotMindLoss();
        arriveTakesAnyAddress();
        routerAnswersNone();
        routerAnswersZeroIfOff();
        routerCountsSinceTheBeginning();
        sessionAnswersNone();
        sessionCountsSinceItWasOpened();
        portAnswersNone();
        flyingCounts();
        frameAnswersNone();
        frameAnswersInTheOrderOfSending();
        DUE.end();
    }

    /** An object where nearly everything goes on: an ACTIVE router, BACKUPs, sessions in all states, frames, a tape. */
    private static StandInLan lively() {
        StandInLan x = new StandInLan();
        int[] v = {0, 60, 0, 7, -9, 99, 20, 0, 11, 31};
        for (int what = 1; what < 10; what++) {
            x.set(0, what, v[what]);
            x.set(2, what, v[what]);
        }
        x.set(2, 7, 1);
        x.set(1, 0, 255);
        x.set(1, 6, 9);
        x.start(0);
        x.start(1);
        x.start(2);
        x.start(3);
        for (int s = 1; s < 5; s++) {
            x.open(0, s, 20 * s, 30, 3);
        }
        for (int s = 1; s < 4; s++) {
            Tapes.tell(x, 0, s, 1, 0, 400, 1);
        }
        Tapes.tell(x, 0, 1, 3, 0, 400, 1);
        Tapes.tell(x, 0, 2, 3, 0, 400, 1);
        x.change(0, 2, 300, 9);
        x.change(0, 4, 0, 0);
        x.stop(3, true);
        x.ask(0);
        x.tick(5);
        x.ask(0);
        Tapes.bytes(x, Tapes.advertisement(7, 120, 44, 99, 77));
        return x;
    }

    /** What can't be asked, the clock and the tape, shows when the two go on alike. */
    private static void goOnAlike(String call, StandInLan x, StandInLan y) {
        DUE.same("after " + call, x, y);
        DUE.is("the tape after " + call, x.arrive(0, 1, 9, 255, 77) ? 1 : 0, 1);
        y.arrive(0, 1, 9, 255, 77);
        DUE.is("the clock after " + call, x.tick(1), 6);
        y.tick(1);
        DUE.same("a tick after " + call, x, y);
        for (int r = 3; r < 5; r++) {
            x.start(r);
            y.start(r);
        }
        x.tick(250);
        y.tick(250);
        DUE.same("many ticks after " + call, x, y);
    }

    private static void refused(String call, Class<? extends RuntimeException> want, Consumer<StandInLan> body) {
        StandInLan x = lively();
        DUE.refuses(call, want, () -> body.accept(x));
        goOnAlike(call, x, lively());
    }

    private static void aNewObjectIsEmpty() {
        DUE.sentence("All routers OFF with settings as at first, no sessions, nothing on the way, the switch knows nothing.");
        int[] row = Whole.answers(new StandInLan());
        int at = 0;
        for (int r = 0; r < 5; r++) {
            for (int what = 0; what < 8; what++) {
                DUE.is("router(" + r + ", " + what + ")", row[at++], 0);
            }
            for (int i = 0; i < 60; i++) {
                DUE.is("sessions of " + r, row[at++], StandInLan.NONE);
            }
        }
        for (int station = 0; station < 16; station++) {
            DUE.is("port(" + station + ")", row[at++], StandInLan.NONE);
        }
        DUE.is("flying()", row[at], 0);
        StandInLan x = new StandInLan();
        x.start(0);
        DUE.no("the tape is empty", x.arrive(0, 1, 0, 255, 0));
        DUE.yes("the tape is empty", Tapes.advertise(x, 0, 100, 100, 5));
    }

    private static void setRefuses() {
        DUE.sentence("set: IndexOutOfBoundsException: there is no such router or setting; IllegalArgumentException: v is not as told.");
        for (int r : NO_ROUTER) {
            refused("set(" + r + ", 0, 100)", OUTSIDE, x -> x.set(r, 0, 100));
            refused("set(" + r + ", 0, 0)", OUTSIDE, x -> x.set(r, 0, 0));
            refused("set(" + r + ", 10, 0)", OUTSIDE, x -> x.set(r, 10, 0));
        }
        for (int what : new int[] {-1, 10, 31, Integer.MIN_VALUE, Integer.MAX_VALUE}) {
            refused("set(0, " + what + ", 1)", OUTSIDE, x -> x.set(0, what, 1));
            refused("set(4, " + what + ", -1)", OUTSIDE, x -> x.set(4, what, -1));
        }
        int[][] bad = {{0, 256}, {0, 4096}, {-1, 2}, {0, 256}, null, null, {0, 51}, {-1, 4}, {-1, 255}, {-1, 32}};
        for (int what = 0; what < 10; what++) {
            for (int i = 0; bad[what] != null && i < 2; i++) {
                int w = what;
                int v = bad[what][i];
                for (int r = 0; r < 5; r++) {
                    int router = r;
                    refused("set(" + r + ", " + w + ", " + v + ")", UNFIT, x -> x.set(router, w, v));
                }
            }
        }
    }

    private static void startRefuses() {
        DUE.sentence("start: IndexOutOfBoundsException: there is none such; IllegalStateException: it is not OFF.");
        for (int r : NO_ROUTER) {
            refused("start(" + r + ")", OUTSIDE, x -> x.start(r));
        }
        for (int r = 0; r < 3; r++) {
            int on = r;
            refused("start(" + r + ")", UNTIMELY, x -> x.start(on));
        }
        StandInLan x = lively();
        DUE.is("router 1 is ACTIVE, the others BACKUP", x.router(1, 0) * 10 + x.router(0, 0), 21);
        x.start(3);
        DUE.is("one that crashed may be started", x.router(3, 0), 1);
    }

    private static void stopRefuses() {
        DUE.sentence("stop: IndexOutOfBoundsException: there is none such; IllegalStateException: it is OFF.");
        for (int r : NO_ROUTER) {
            refused("stop(" + r + ", true)", OUTSIDE, x -> x.stop(r, true));
            refused("stop(" + r + ", false)", OUTSIDE, x -> x.stop(r, false));
        }
        for (int r = 3; r < 5; r++) {
            int off = r;
            refused("stop(" + r + ", true)", UNTIMELY, x -> x.stop(off, true));
            refused("stop(" + r + ", false)", UNTIMELY, x -> x.stop(off, false));
        }
    }

    private static void openRefuses() {
        DUE.sentence("open: IndexOutOfBoundsException: there is no such router, or s is r; IllegalStateException: r is OFF; "
            + "IllegalArgumentException: tx, rx, multiplier are not as told.");
        for (int r : NO_ROUTER) {
            refused("open(" + r + ", 0, 1, 1, 1)", OUTSIDE, x -> x.open(r, 0, 1, 1, 1));
            refused("open(0, " + r + ", 1, 1, 1)", OUTSIDE, x -> x.open(0, r, 1, 1, 1));
            refused("open(4, " + r + ", 0, 0, 0)", OUTSIDE, x -> x.open(4, r, 0, 0, 0));
            refused("open(" + r + ", " + r + ", 1, 1, 1)", OUTSIDE, x -> x.open(r, r, 1, 1, 1));
        }
        for (int r = 0; r < 5; r++) {
            int self = r;
            refused("open(" + r + ", " + r + ", 0, 1, 1)", OUTSIDE, x -> x.open(self, self, 0, 1, 1));
        }
        for (int s = 0; s < 3; s++) {
            int other = s;
            refused("open(4, " + s + ", 1, 1, 1)", UNTIMELY, x -> x.open(4, other, 1, 1, 1));
            refused("open(3, " + s + ", 0, 1, 1)", UNTIMELY, x -> x.open(3, other, 0, 1, 1));
        }
        int[][] bad = {{0, 1, 1}, {1001, 1, 1}, {1, 0, 1}, {1, 1001, 1}, {1, 1, 0}, {1, 1, 256}, {0, 0, 1}, {0, 0, 0},
            {Integer.MIN_VALUE, 1, 1}, {1, Integer.MAX_VALUE, 1}, {1, 1, Integer.MIN_VALUE}};
        for (int[] b : bad) {
            for (int s = 1; s < 5; s++) {
                int other = s;
                refused("open(0, " + s + ", " + b[0] + ", " + b[1] + ", " + b[2] + ")", UNFIT,
                    x -> x.open(0, other, b[0], b[1], b[2]));
            }
            refused("open(2, 0, ..): no session is made", UNFIT, x -> x.open(2, 0, b[0], b[1], b[2]));
        }
        StandInLan x = lively();
        x.open(0, 3, 1, 1, 1);
        x.open(2, 4, 1, 1, 1);
        DUE.session(x, 0, 3, 1, 1, 0, 0, 100, 0, 1, 1, 0, 1, 0, 0);
        DUE.session(x, 2, 4, 1, 1, 0, 0, 100, 0, 1, 1, 0, 1, 0, 0);
    }

    private static void changeRefuses() {
        DUE.sentence("change: IndexOutOfBoundsException: there is no such router; IllegalStateException: it has no such session "
            + "(so one that is OFF), or that is ADMIN; IllegalArgumentException: tx, rx are not as told.");
        for (int r : NO_ROUTER) {
            refused("change(" + r + ", 0, 1, 1)", OUTSIDE, x -> x.change(r, 0, 1, 1));
            refused("change(0, " + r + ", 1, 1)", OUTSIDE, x -> x.change(0, r, 1, 1));
            refused("change(4, " + r + ", -1, 0)", OUTSIDE, x -> x.change(4, r, -1, 0));
            refused("change(" + r + ", " + r + ", 0, 0)", OUTSIDE, x -> x.change(r, r, 0, 0));
        }
        int[][] none = {{0, 0}, {0, 4}, {1, 0}, {1, 1}, {2, 0}, {3, 0}, {3, 3}, {4, 0}, {4, 4}};
        for (int[] n : none) {
            for (int[] rates : new int[][] {{1, 1}, {0, 0}, {0, 1}, {1001, -1}}) {
                refused("change(" + n[0] + ", " + n[1] + ", " + rates[0] + ", " + rates[1] + ")", UNTIMELY,
                    x -> x.change(n[0], n[1], rates[0], rates[1]));
            }
        }
        int[][] bad = {{0, 1}, {1, 0}, {1001, 1}, {1, 1001}, {-1, 1}, {1, -1}, {0, -1}, {-1, 0}, {0, 1000}, {1000, 0},
            {0, 1001}, {1001, 0}, {-1, -1}, {Integer.MIN_VALUE, 0}, {Integer.MAX_VALUE, 1}, {1, Integer.MIN_VALUE}};
        for (int[] b : bad) {
            for (int s = 1; s < 4; s++) {
                int other = s;
                refused("change(0, " + s + ", " + b[0] + ", " + b[1] + ")", UNFIT, x -> x.change(0, other, b[0], b[1]));
            }
        }
        for (int[] good : new int[][] {{1, 1}, {1000, 1000}, {1, 1000}, {1000, 1}}) {
            StandInLan x = Tapes.withSession(1, 50, 60, 3);
            x.change(0, 1, good[0], good[1]);
            DUE.is("TX in use", x.session(0, 1, 6), good[0]);
            DUE.is("RX in use", x.session(0, 1, 7), good[1]);
        }
    }

    private static void changeShutsIfBothAreZero() {
        DUE.sentence("or, if both are 0, it is shut.");
        for (int state = 1; state < 4; state++) {
            StandInLan x = Tapes.withSession(state, 50, 60, 3);
            x.change(0, 1, 0, 0);
            DUE.is("STATE", x.session(0, 1, 0), 0);
            DUE.is("DIAGNOSIS", x.session(0, 1, 3), 7);
            DUE.is("TX in use stays", x.session(0, 1, 6), 50);
            DUE.is("RX in use stays", x.session(0, 1, 7), 60);
        }
    }

    private static void askRefuses() {
        DUE.sentence("ask: IndexOutOfBoundsException: there is none such; IllegalStateException: it is OFF.");
        for (int r : NO_ROUTER) {
            refused("ask(" + r + ")", OUTSIDE, x -> x.ask(r));
        }
        refused("ask(3)", UNTIMELY, x -> x.ask(3));
        refused("ask(4)", UNTIMELY, x -> x.ask(4));
    }

    private static void tickRefuses() {
        DUE.sentence("tick: IllegalArgumentException: n is not 1 .. 400.");
        for (int n : new int[] {0, -1, 401, 402, -400, 800, Integer.MIN_VALUE, Integer.MAX_VALUE}) {
            refused("tick(" + n + ")", UNFIT, x -> x.tick(n));
        }
    }

    private static void tickAnswersTheClock() {
        DUE.sentence("n ticks: the clock.");
        StandInLan x = new StandInLan();
        int clock = 0;
        for (int n : new int[] {1, 400, 2, 399, 200}) {
            clock += n;
            DUE.is("tick(" + n + ")", x.tick(n), clock);
        }
    }

    private static void typeTakesOneToEightBytes() {
        DUE.sentence("The n (1 .. 8) lowest bytes of word .. false, changing nothing, for another n");
        for (int n : new int[] {0, 9, -1, 10, 40, -8, Integer.MIN_VALUE, Integer.MAX_VALUE}) {
            StandInLan x = lively();
            DUE.no("type(-1, " + n + ")", x.type(-1, n));
            goOnAlike("type(-1, " + n + ")", x, lively());
        }
        for (int n = 1; n < 9; n++) {
            StandInLan x = new StandInLan();
            DUE.yes("type(-1, " + n + ")", x.type(-1, n));
            for (int left = 40 - n; left > 0; left--) {
                DUE.yes("one byte more", x.type(0, 1));
            }
            DUE.no("byte 41", x.type(0, 1));
        }
    }

    private static void typeTakesFortyInAll() {
        DUE.sentence("or if it would have more than 40.");
        for (int length = 30; length <= 40; length++) {
            for (int n = 1; n < 9; n++) {
                StandInLan x = new StandInLan();
                for (int i = 0; i < length; i++) {
                    x.type(0, 1);
                }
                DUE.is(n + " behind " + length, x.type(0, n) ? 1 : 0, length + n <= 40 ? 1 : 0);
                int left = length + n <= 40 ? 40 - length - n : 40 - length;
                for (int i = 0; i < left; i++) {
                    DUE.yes("room is left", x.type(0, 1));
                }
                DUE.no("byte 41", x.type(0, 1));
            }
        }
    }

    private static void typeTakesTheLowestBytes() {
        DUE.sentence("The n (1 .. 8) lowest bytes of word, the highest first, go behind the tape");
        int[] row = Tapes.packet(3, 0, 3, 0x8001, 2, 0x01020, 0x01fe);
        for (int n = 1; n < 9; n++) {
            for (long above : new long[] {0, -1, 0x5aa55aa55aa55aa5L}) {
                StandInLan x = Tapes.withSession(1, 10, 10, 3);
                for (int at = 0; at < 24; at += n) {
                    int size = Math.min(n, 24 - at);
                    long word = above;
                    for (int i = 0; i < size; i++) {
                        word = word << 8 | row[at + i];
                    }
                    x.type(word, size);
                }
                DUE.yes("typed by " + n, x.arrive(0, 2, 1, 255, 0));
                DUE.session(x, 0, 1, 1, 3, 0x8001, 0, 100, 3 * 0x1020, 10, 10, 0, 0x01fe, 0x1020, 0);
            }
        }
    }

    private static void arriveRefuses() {
        DUE.sentence("arrive: IndexOutOfBoundsException: there is no such router; IllegalArgumentException: kind, station, hops "
            + "are not so; IllegalStateException: r is OFF.");
        for (int r : NO_ROUTER) {
            refused("arrive(" + r + ", 1, 9, 255, 77)", OUTSIDE, x -> x.arrive(r, 1, 9, 255, 77));
            refused("arrive(" + r + ", 0, 15, 256, 77)", OUTSIDE, x -> x.arrive(r, 0, 15, 256, 77));
        }
        for (int r : new int[] {0, 1, 3, 4}) {
            for (int kind : new int[] {0, 3, 4, -1, 5, Integer.MIN_VALUE, Integer.MAX_VALUE}) {
                refused("arrive(" + r + ", " + kind + ", 9, 255, 77)", UNFIT, x -> x.arrive(r, kind, 9, 255, 77));
            }
            for (int station : new int[] {-1, 15, 16, Integer.MIN_VALUE, Integer.MAX_VALUE}) {
                refused("arrive(" + r + ", 1, " + station + ", 255, 77)", UNFIT, x -> x.arrive(r, 1, station, 255, 77));
                refused("arrive(" + r + ", 2, " + station + ", 255, 77)", UNFIT, x -> x.arrive(r, 2, station, 255, 77));
            }
            for (int hops : new int[] {-1, 256, Integer.MIN_VALUE, Integer.MAX_VALUE}) {
                refused("arrive(" + r + ", 1, 9, " + hops + ", 77)", UNFIT, x -> x.arrive(r, 1, 9, hops, 77));
            }
        }
        for (int r = 3; r < 5; r++) {
            int off = r;
            refused("arrive(" + r + ", 1, 9, 255, 77)", UNTIMELY, x -> x.arrive(off, 1, 9, 255, 77));
            refused("arrive(" + r + ", 2, 0, 0, 77)", UNTIMELY, x -> x.arrive(off, 2, 0, 0, 77));
        }
    }

    private static void arriveKeepsTheTapeWithAnException() {
        DUE.sentence("The tape (which is empty then, but with an exception)");
        StandInLan x = new StandInLan();
        x.start(0);
        for (int i = 0; i < 5; i++) {
            x.type(0, 8);
        }
        DUE.outside("arrive(5, 1, 9, 255, 0)", () -> x.arrive(5, 1, 9, 255, 0));
        DUE.no("the tape is still full", x.type(0, 1));
        DUE.unfit("arrive(0, 1, 15, 255, 0)", () -> x.arrive(0, 1, 15, 255, 0));
        DUE.no("the tape is still full", x.type(0, 1));
        DUE.untimely("arrive(1, 1, 9, 255, 0)", () -> x.arrive(1, 1, 9, 255, 0));
        DUE.no("the tape is still full", x.type(0, 1));
    }

    private static void arriveEmptiesTheTape() {
        DUE.sentence("The tape (which is empty then ..)");
        for (int kind = 1; kind < 3; kind++) {
            for (int hops = 254; hops < 256; hops++) {
                StandInLan x = Tapes.withSession(1, 10, 10, 3);
                int[] row = kind == 1 ? Tapes.advertisement(1, 200, 50, Tapes.VIRTUAL, 5) : Tapes.packet(1, 0, 3, 17, 2, 1, 1);
                Tapes.bytes(x, row);
                DUE.is("kind " + kind + ", HOPS " + hops, x.arrive(0, kind, 1, hops, 5) ? 1 : 0, hops == 255 ? 1 : 0);
                for (int i = 0; i < 5; i++) {
                    DUE.yes("there is room for 40 bytes", x.type(0, 8));
                }
                DUE.no("a packet of 0s", x.arrive(0, kind, 1, 255, 5));
                DUE.no("no packet", x.arrive(0, kind, 1, 255, 5));
                Tapes.bytes(x, row);
                DUE.yes("the same once more", x.arrive(0, kind, 1, 255, 5));
            }
        }
    }

    private static void arriveTakesAllStationsAndHops() {
        DUE.sentence("of a kind 1 or 2, from a station 0 .. 14, with HOPS 0 .. 255");
        StandInLan x = Tapes.withSession(1, 10, 10, 3);
        for (int station = 0; station < 15; station++) {
            DUE.no("arrive(0, 1, " + station + ", 0, 0)", x.arrive(0, 1, station, 0, 0));
            Tapes.bytes(x, Tapes.packet(3, 0, 3, 17, 2, 1, 1));
            DUE.yes("arrive(0, 2, " + station + ", 255, 0)", x.arrive(0, 2, station, 255, 0));
            DUE.is("the switch learns nothing", x.port(station), StandInLan.NONE);
        }
        for (int hops = 0; hops < 256; hops++) {
            Tapes.bytes(x, Tapes.packet(3, 0, 3, 17, 2, 1, 1));
            DUE.is("HOPS " + hops, x.arrive(0, 2, 1, hops, 0) ? 1 : 0, hops == 255 ? 1 : 0);
        }
        DUE.is("flying()", x.flying(), 0);
    }

    private static void arriveDoesNotMindLoss() {
        DUE.sentence("that arrives at router r at once (LOSS does not matter)");
        for (int loss = 0; loss < 4; loss++) {
            StandInLan x = Tapes.withSession(1, 10, 10, 3);
            x.set(0, 7, loss);
            x.set(0, 6, 50);
            DUE.yes("kind 1 with LOSS " + loss, Tapes.advertise(x, 0, 200, 50, 5));
            DUE.yes("kind 2 with LOSS " + loss, Tapes.tell(x, 0, 1, 1, 0, 1, 1));
            DUE.is("known at once", x.router(0, 3), 50);
            DUE.is("INIT at once", x.session(0, 1, 0), 2);
        }
    }

    private static void arriveTakesAnyAddress() {
        DUE.sentence("and an ADDRESS: true, if it was TAKEN (kind 1), or if it came to a session (kind 2)");
        for (int address : new int[] {Integer.MIN_VALUE, -65536, -1, 0, 1, 65535, 65536, Integer.MAX_VALUE}) {
            StandInLan x = Tapes.withSession(1, 10, 10, 3);
            DUE.yes("kind 1 with ADDRESS " + address, Tapes.advertise(x, 0, 1, 50, address));
            DUE.is("TAKEN, though nothing came of it", x.router(0, 5), 1);
            Tapes.bytes(x, Tapes.packet(3, 0, 3, 17, 2, 1, 1));
            DUE.yes("kind 2 with ADDRESS " + address, x.arrive(0, 2, 1, 255, address));
            DUE.is("no ADDRESS is noted", x.router(0, 7), 0);
        }
    }

    private static void routerAnswersNone() {
        DUE.sentence("router: NONE for another what, or if there is no such router.");
        StandInLan x = lively();
        for (int r = 0; r < 5; r++) {
            for (int what : new int[] {-1, 8, 9, Integer.MIN_VALUE, Integer.MAX_VALUE}) {
                DUE.is("router(" + r + ", " + what + ")", x.router(r, what), StandInLan.NONE);
            }
            DUE.no("router(" + r + ", 7) is none", x.router(r, 7) == StandInLan.NONE);
        }
        for (int r : NO_ROUTER) {
            for (int what = -1; what < 9; what++) {
                DUE.is("router(" + r + ", " + what + ")", x.router(r, what), StandInLan.NONE);
            }
        }
        goOnAlike("router", x, lively());
    }

    private static void routerAnswersZeroIfOff() {
        DUE.sentence("1 its timer, 2 the WEIGHED priority, 3 the interval that it knows (these 0 if it is OFF)");
        for (int priority : new int[] {1, 100, 255}) {
            StandInLan x = new StandInLan();
            x.set(0, 0, priority);
            x.start(0);
            x.stop(0, false);
            for (int what = 0; what < 4; what++) {
                DUE.is("router(0, " + what + ")", x.router(0, what), 0);
            }
        }
    }

    private static void routerCountsSinceTheBeginning() {
        DUE.sentence("(also lost ones; 4 to 6 since the beginning), 7 the ADDRESS noted last (0 at first; it stays when it is OFF)");
        StandInLan x = new StandInLan();
        x.set(0, 0, 255);
        x.start(0);
        for (int life = 1; life < 5; life++) {
            x.start(1);
            DUE.yes("an advertisement", Tapes.advertise(x, 1, 1, 50, 5));
            x.set(1, 7, life == 1 ? 0 : 3);
            x.ask(1);
            x.tick(3);
            x.set(0, 4, 1000 + life);
            x.set(1, 0, 255);
            x.stop(1, true);
            x.start(1);
            x.stop(1, false);
            x.set(1, 0, 100);
            // In its first life it heard the first advertisement of router 0, too.
            DUE.router(x, 1, 0, 0, 0, 0, life, life + 1, 4 * life, 167772160);
        }
    }

    private static void sessionAnswersNone() {
        DUE.sentence("session: NONE for another what, or if there is no such session.");
        StandInLan x = lively();
        for (int what : new int[] {-1, 12, 13, Integer.MIN_VALUE, Integer.MAX_VALUE}) {
            DUE.is("session(0, 1, " + what + ")", x.session(0, 1, what), StandInLan.NONE);
        }
        for (int what = -1; what < 13; what++) {
            for (int r : NO_ROUTER) {
                DUE.is("session(" + r + ", 1, " + what + ")", x.session(r, 1, what), StandInLan.NONE);
                DUE.is("session(0, " + r + ", " + what + ")", x.session(0, r, what), StandInLan.NONE);
                DUE.is("session(" + r + ", " + r + ", " + what + ")", x.session(r, r, what), StandInLan.NONE);
            }
            for (int r = 0; r < 5; r++) {
                DUE.is("session(" + r + ", " + r + ", " + what + ")", x.session(r, r, what), StandInLan.NONE);
                DUE.is("session(3, " + r + ", " + what + ")", x.session(3, r, what), StandInLan.NONE);
            }
            DUE.is("session(1, 0, " + what + ")", x.session(1, 0, what), StandInLan.NONE);
        }
        DUE.is("session(0, 4, 11)", x.session(0, 4, 11), 0);
        goOnAlike("session", x, lively());
    }

    private static void sessionCountsSinceItWasOpened() {
        DUE.sentence("11: how often it came to be UP since it was opened");
        StandInLan x = Tapes.withSession(3, 10, 10, 3);
        for (int ups = 2; ups < 6; ups++) {
            Tapes.tell(x, 0, 1, 1, 0, 1, 1);
            DUE.is("UP", x.session(0, 1, 11), ups - 1);
            Tapes.tell(x, 0, 1, 2, 0, 1, 1);
            DUE.is("UP", x.session(0, 1, 11), ups);
            Tapes.tell(x, 0, 1, 3, 0, 1, 1);
            DUE.is("UP when it stays so", x.session(0, 1, 11), ups);
        }
        x.change(0, 1, 0, 0);
        DUE.is("UP when shut", x.session(0, 1, 11), 5);
        x.open(0, 1, 10, 10, 3);
        DUE.is("UP when opened anew", x.session(0, 1, 11), 0);
    }

    private static void portAnswersNone() {
        DUE.sentence("The port at which the switch believes a station to be; NONE if it does not know.");
        StandInLan x = lively();
        for (int station : new int[] {1, 2, 3, 4, 5, 8, 10, 14, 15, 16, 31, -1, Integer.MIN_VALUE, Integer.MAX_VALUE}) {
            DUE.is("port(" + station + ")", x.port(station), StandInLan.NONE);
        }
        DUE.is("port(0)", x.port(0), 0);
        DUE.is("port(9)", x.port(9), 1);
        goOnAlike("port", x, lively());
    }

    private static void flyingCounts() {
        DUE.sentence("How many frames are on the way.");
        StandInLan x = new StandInLan();
        x.start(0);
        DUE.is("none", x.flying(), 0);
        x.set(0, 6, 2);
        for (int i = 1; i < 62; i++) {
            x.ask(0);
            DUE.is("flying()", x.flying(), Math.min(60, i));
        }
        x.tick(1);
        DUE.is("all are still on the way", x.flying(), 60);
        x.tick(1);
        DUE.is("none any more", x.flying(), 0);
    }

    private static void frameAnswersNone() {
        DUE.sentence("else byte i of its packet. NONE if there is none such.");
        StandInLan x = new StandInLan();
        x.set(0, 0, 255);
        x.start(0);
        x.start(1);
        x.open(1, 2, 1, 1, 1);
        Tapes.bytes(x, Tapes.packet(3, 32, 3, 9, 19, 1, 1));
        x.arrive(1, 2, 2, 255, 0);
        int[] lengths = {12, 0, 24};
        DUE.is("flying()", x.flying(), 3);
        for (int k = 0; k < 3; k++) {
            DUE.is("frame(" + k + ", -5)", x.frame(k, -5), lengths[k]);
            for (int i = 0; i < 45; i++) {
                DUE.is("frame(" + k + ", " + i + ") is none", x.frame(k, i) == StandInLan.NONE ? 1 : 0,
                    i >= lengths[k] ? 1 : 0);
            }
            for (int i : new int[] {-7, -8, Integer.MIN_VALUE, Integer.MAX_VALUE}) {
                DUE.is("frame(" + k + ", " + i + ")", x.frame(k, i), StandInLan.NONE);
            }
        }
        for (int k : new int[] {-1, 3, 4, 59, 60, 61, Integer.MIN_VALUE, Integer.MAX_VALUE}) {
            for (int i = -8; i < 45; i++) {
                DUE.is("frame(" + k + ", " + i + ")", x.frame(k, i), StandInLan.NONE);
            }
        }
        // A shorter packet in a row that held a longer one shows nothing of that.
        x.tick(1);
        for (int i = 0; i < 60; i++) {
            x.ask(0);
        }
        for (int k = 0; k < 60; k++) {
            DUE.frame(x, k, new int[] {1, 3, 0, 15, 0, 30});
        }
        DUE.is("frame(60, -1)", x.frame(60, -1), StandInLan.NONE);
    }

    private static void frameAnswersInTheOrderOfSending() {
        DUE.sentence("Of frame k on the way, from 0 on in the order in which they were sent, i = -1: the ticks until it arrives");
        StandInLan x = new StandInLan();
        for (int r = 0; r < 5; r++) {
            x.start(r);
        }
        int[] from = {2, 0, 4, 1, 3, 0};
        int[] delay = {50, 3, 1, 20, 3, 2};
        for (int k = 0; k < from.length; k++) {
            x.set(from[k], 6, delay[k]);
            x.ask(from[k]);
        }
        for (int clock = 0; clock < 51; clock++) {
            int at = 0;
            for (int k = 0; k < from.length; k++) {
                if (delay[k] > clock) {
                    DUE.frame(x, at, new int[] {delay[k] - clock, 3, from[k], 15, 0, 31 - (1 << from[k])});
                    at++;
                }
            }
            DUE.is("flying()", x.flying(), at);
            x.tick(1);
        }
    }
}
