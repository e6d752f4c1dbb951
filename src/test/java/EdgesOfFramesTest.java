/** The boundary cases in the first paragraphs of the document's Terms: routers, timers, settings, frames, a tick. */
public final class EdgesOfFramesTest {
    private static final Due DUE = new Due("EdgesOfFramesTest");
    private static final int OWN = 167772160;

    public static void main(String[] args) {
        theClockIsZeroAtFirst();
        routersAreFiveAndOffAtFirst();
        routersAreAtTheirPorts();
        fifteenMeansAll();
        numbersSentHaveTheHighestByteFirst();
        numbersHeardHaveTheHighestByteFirst();
        aTimerSetToZeroIsSetToOne();
        zeroMeansThatATimerIsOff();
        aTimerFiresFromOneToZero();
        hopsAre255WhenSent();
        lossTellsWhatIsLost();
        lostOnesAreCounted();
        lostOnesTeachTheSwitchNothing();
        theWayIsWhatTheSwitchKnowsThen();
        unknownStationsAreSoughtAtAllOtherPorts();
        theDelayIsThatOfTheSenderThen();
        delaysEndInTheirTick();
        sixtyAreOnTheWayAndOneMoreIsLost();
        oneMoreThanSixtyStillTeachesTheSwitch();
        oneThatArrivesMakesRoom();
        framesArriveOnceAndWhenDue();
        dueFramesArriveInTheOrderOfSending();
        oneFrameArrivesAtTheLeastPortFirst();
        framesPassRoutersThatAreOff();
        framesPassRoutersThatLoseThem();
        routersMindOnlyWhatIsForThem();
        framesArriveBeforeTimersRun();
        leastRoutersComeFirst();
        theTimerComesBeforeTheSessions();
        leastSessionsComeFirst();
        detectComesBeforeSend();
        DUE.end();
    }

    private static void theClockIsZeroAtFirst() {
        DUE.sentence("THE CLOCK counts TICKS, 0 at first.");
        DUE.is("the first tick(1)", new StandInLan().tick(1), 1);
        DUE.is("the first tick(400)", new StandInLan().tick(400), 400);
        StandInLan x = new StandInLan();
        int clock = 0;
        for (int call = 0; call < 512; call++) {
            clock = x.tick(400);
        }
        DUE.is("512 calls of tick(400)", clock, 204800);
    }

    private static void routersAreFiveAndOffAtFirst() {
        DUE.sentence("ROUTERS are 0 .. 4, OFF at first");
        StandInLan x = new StandInLan();
        for (int r = 0; r < 5; r++) {
            DUE.is("router(" + r + ", 0) at first", x.router(r, 0), 0);
            x.start(r);
            DUE.is("router(" + r + ", 0) when started", x.router(r, 0), 1);
        }
        DUE.outside("start(-1)", () -> x.start(-1));
        DUE.outside("start(5)", () -> x.start(5));
    }

    private static void routersAreAtTheirPorts() {
        DUE.sentence("router r is at port r of the switch");
        for (int r = 0; r < 5; r++) {
            StandInLan x = new StandInLan();
            x.start(r);
            x.ask(r);
            DUE.is("port(" + r + ")", x.port(r), r);
            x.set((r + 1) % 5, 0, 255);
            x.start((r + 1) % 5);
            DUE.is("port(9)", x.port(9), (r + 1) % 5);
            x.tick(1);
            DUE.is("the answer's port", x.frame(0, -6), 1 << r);
        }
    }

    private static void fifteenMeansAll() {
        DUE.sentence("15 means all");
        for (int r = 0; r < 5; r++) {
            StandInLan x = new StandInLan();
            for (int s = 0; s < 5; s++) {
                x.start(s);
                x.ask(s);
            }
            x.tick(1);
            DUE.is("port(15) though frames went to 15", x.port(15), StandInLan.NONE);
            x.ask(r);
            DUE.is("ports though all stations are known", x.frame(0, -6), 31 - (1 << r));
        }
    }

    private static void numbersSentHaveTheHighestByteFirst() {
        DUE.sentence("Numbers in packets have the highest byte first. (sent)");
        StandInLan x = new StandInLan();
        x.set(0, 0, 255);
        x.set(0, 1, 0x0a0b);
        x.set(0, 5, 0x81828384);
        x.start(0);
        int[] due = {0x0a, 0x0b};
        for (int i = 0; i < 2; i++) {
            DUE.is("INTERVAL's byte " + i, x.frame(0, 4 + i), due[i]);
        }
        for (int i = 0; i < 4; i++) {
            DUE.is("VIRTUAL's byte " + i, x.frame(0, 8 + i), 0x81 + i);
        }
        StandInLan y = Tapes.withSession(1, 0x0102, 0x0203, 3);
        Tapes.bytes(y, Tapes.packet(3, 32, 3, 0x010203, 2, 1, 1));
        y.arrive(0, 2, 1, 255, 0);
        DUE.frame(y, 0, new int[] {1, 2, 0, 1, 24, 30}, 32, 80, 3, 24, 0, 0, 0, 2, 0, 1, 2, 3,
            0, 0, 1, 2, 0, 0, 2, 3, 0, 0, 0, 0);
    }

    private static void numbersHeardHaveTheHighestByteFirst() {
        DUE.sentence("Numbers in packets have the highest byte first. (heard)");
        StandInLan x = Tapes.withSession(1, 10, 10, 1);
        Tapes.bytes(x, Tapes.packet(3, 0, 1, 0x010203, 2, 0x0102, 0x010304));
        DUE.yes("a packet with long numbers", x.arrive(0, 2, 1, 255, 0));
        DUE.session(x, 0, 1, 1, 3, 0x010203, 0, 100, 0x0102, 10, 10, 0, 0x010304, 0x0102, 0);
        Tapes.bytes(x, Tapes.packet(3, 0, 1, 5, 2 << 24, 1, 1));
        DUE.no("the number meant, the other way round", x.arrive(0, 2, 1, 255, 0));
        DUE.yes("an interval of two bytes", Tapes.advertise(x, 0, 200, 0x0304, 1));
        DUE.is("known", x.router(0, 3), 0x0304);
        Tapes.bytes(x, Tapes.advertisement(1, 200, 5, Integer.reverseBytes(Tapes.VIRTUAL), 1));
        DUE.no("VIRTUAL, the other way round", x.arrive(0, 1, 9, 255, 1));
    }

    private static void aTimerSetToZeroIsSetToOne() {
        DUE.sentence("A timer that is set to 0 is set to 1");
        // PRIORITY, the interval known, the timer after a goodbye: SKEW, or 1 where SKEW is 0.
        int[][] rows = {{254, 1, 1}, {254, 127, 1}, {254, 128, 1}, {254, 255, 1}, {254, 256, 2}, {1, 1, 1}, {1, 2, 1},
            {1, 3, 2}, {128, 1, 1}, {128, 3, 1}, {128, 4, 2}};
        for (int[] row : rows) {
            StandInLan x = new StandInLan();
            x.set(0, 0, row[0]);
            x.set(0, 1, row[1]);
            x.start(0);
            DUE.yes("a goodbye", Tapes.advertise(x, 0, 0, 9, 1));
            DUE.is("the timer with PRIORITY " + row[0] + ", INTERVAL " + row[1], x.router(0, 1), row[2]);
            x.tick(row[2]);
            DUE.is("it fired", x.router(0, 0), 2);
        }
    }

    private static void zeroMeansThatATimerIsOff() {
        DUE.sentence("0 means that it is off");
        StandInLan x = Tapes.withSession(1, 10, 10, 3);
        Tapes.bytes(x, Tapes.packet(2, 0, 1, 17, 2, 1, 0));
        x.arrive(0, 2, 1, 255, 0);
        DUE.session(x, 0, 1, 3, 2, 17, 0, 0, 10);
        x.set(0, 1, 4095);
        Tapes.advertise(x, 0, 200, 4095, 1);
        x.tick(9);
        DUE.session(x, 0, 1, 3, 2, 17, 0, 0, 1);
        x.tick(1);
        DUE.session(x, 0, 1, 1, 2, 0, 1, 0, 0);
        x.tick(400);
        DUE.session(x, 0, 1, 1, 2, 0, 1, 0, 0);
        DUE.is("SEND never fired", x.router(0, 6), 0);
        StandInLan y = new StandInLan();
        y.tick(400);
        DUE.is("the timer of one OFF never fired", y.router(0, 4), 0);
    }

    private static void aTimerFiresFromOneToZero() {
        DUE.sentence("it FIRES when a tick brings it from 1 to 0");
        StandInLan x = new StandInLan();
        x.set(0, 1, 1);
        x.start(0);
        DUE.router(x, 0, 1, 3);
        x.tick(2);
        DUE.router(x, 0, 1, 1);
        x.tick(1);
        DUE.router(x, 0, 2, 1, 100, 1, 1, 0, 2);
        for (int sent = 3; sent < 10; sent++) {
            x.tick(1);
            DUE.router(x, 0, 2, 1, 100, 1, 1, 0, sent);
        }
        StandInLan y = Tapes.withSession(3, 1, 1, 3);
        for (int sent = 1; sent < 10; sent++) {
            DUE.is("SEND", y.session(0, 1, 4), 1);
            y.tick(1);
            DUE.is("sent", y.router(0, 6), sent);
        }
        StandInLan z = Tapes.withSession(3, 1000, 1, 1);
        Tapes.bytes(z, Tapes.packet(3, 0, 1, 17, 2, 1, 1));
        z.arrive(0, 2, 1, 255, 0);
        DUE.session(z, 0, 1, 3, 3, 17, 0, 1000, 1);
        z.tick(1);
        DUE.session(z, 0, 1, 1, 3, 0, 1, 999, 0);
    }

    private static void hopsAre255WhenSent() {
        DUE.sentence("a HOPS number (255 when it is sent)");
        StandInLan x = new StandInLan();
        x.set(0, 0, 255);
        x.start(0);
        x.start(1);
        x.open(0, 1, 1, 1, 1);
        x.open(1, 0, 1, 1, 1);
        x.tick(1);
        DUE.is("what was sent is taken", x.router(1, 5), 1);
        x.tick(100);
        DUE.is("what was sent comes to a session", x.session(1, 0, 2), 2);
    }

    private static StandInLan twoWithLoss(int loss) {
        StandInLan x = new StandInLan();
        x.start(0);
        x.start(1);
        x.set(0, 7, loss);
        return x;
    }

    private static void lossTellsWhatIsLost() {
        DUE.sentence("1: what it sends is lost, 2: what comes to it is, 3: both");
        for (int loss = 0; loss < 4; loss++) {
            StandInLan x = twoWithLoss(loss);
            x.ask(0);
            DUE.is("flying() with LOSS " + loss, x.flying(), loss == 0 || loss == 2 ? 1 : 0);
            StandInLan y = twoWithLoss(loss);
            y.set(2, 0, 255);
            y.start(2);
            y.tick(1);
            DUE.is("taken with LOSS " + loss, y.router(0, 5), loss < 2 ? 1 : 0);
            DUE.is("taken by another one", y.router(1, 5), 1);
        }
    }

    private static void lostOnesAreCounted() {
        DUE.sentence("When a router sends one it is counted; if its LOSS has 1, it is lost.");
        for (int loss = 0; loss < 4; loss++) {
            StandInLan x = twoWithLoss(loss);
            x.ask(0);
            DUE.is("sent with LOSS " + loss, x.router(0, 6), 1);
            DUE.is("sent by another one", x.router(1, 6), 0);
        }
        StandInLan x = new StandInLan();
        x.set(0, 0, 255);
        x.set(0, 7, 1);
        x.start(0);
        DUE.router(x, 0, 2, 100, 255, 100, 1, 0, 2);
        x.stop(0, false);
        DUE.is("a goodbye is counted, too", x.router(0, 6), 3);
        DUE.is("flying()", x.flying(), 0);
    }

    private static void lostOnesTeachTheSwitchNothing() {
        DUE.sentence("Else the switch learns that the station it is from is at the router's port");
        for (int loss = 0; loss < 4; loss++) {
            StandInLan x = twoWithLoss(loss);
            x.ask(0);
            DUE.is("port(0) with LOSS " + loss, x.port(0), loss == 0 || loss == 2 ? 0 : StandInLan.NONE);
        }
        StandInLan y = new StandInLan();
        y.set(0, 0, 255);
        y.set(1, 0, 255);
        y.start(0);
        DUE.is("port(9)", y.port(9), 0);
        y.set(1, 7, 1);
        y.start(1);
        DUE.is("port(9) when what 1 sends is lost", y.port(9), 0);
        y.set(1, 7, 2);
        y.tick(100);
        DUE.is("port(9) when 1 was the last to advertise", y.port(9), 1);
        DUE.is("port(0): nothing came from there", y.port(0), StandInLan.NONE);
    }

    private static void theWayIsWhatTheSwitchKnowsThen() {
        DUE.sentence("it goes, by what the switch knows then, to the port of the station to which it goes");
        StandInLan x = new StandInLan();
        x.start(0);
        x.start(1);
        x.set(0, 6, 50);
        x.open(0, 1, 1, 1, 1);
        x.tick(100);
        DUE.is("1 is not known", x.frame(0, -6), 30);
        x.ask(1);
        DUE.is("port(1)", x.port(1), 1);
        DUE.is("what is on the way keeps its ports", x.frame(0, -6), 30);
        x.tick(100);
        DUE.is("1 is known", x.frame(0, -6), 2);
        x.stop(1, true);
        x.tick(100);
        DUE.is("1 is OFF, but known", x.frame(0, -6), 2);
    }

    private static void unknownStationsAreSoughtAtAllOtherPorts() {
        DUE.sentence("or, if that is 15 or not known, to all other ports");
        for (int r = 0; r < 5; r++) {
            StandInLan x = new StandInLan();
            x.start(r);
            int other = (r + 2) % 5;
            x.open(r, other, 1, 1, 1);
            x.tick(100);
            DUE.is("to", x.frame(0, -4), other);
            DUE.is("ports", x.frame(0, -6), 31 - (1 << r));
            x.ask(r);
            DUE.is("ports of one to 15", x.frame(1, -6), 31 - (1 << r));
        }
    }

    private static void theDelayIsThatOfTheSenderThen() {
        DUE.sentence("it arrives DELAY ticks later (that of the sender, as it is then)");
        StandInLan x = new StandInLan();
        x.set(0, 0, 255);
        x.set(0, 6, 3);
        x.start(1);
        x.set(1, 6, 50);
        x.start(0);
        x.set(0, 6, 1);
        DUE.is("ticks left", x.frame(0, -1), 3);
        x.set(0, 6, 50);
        x.tick(2);
        DUE.is("taken too early", x.router(1, 5), 0);
        x.stop(0, true);
        x.tick(1);
        DUE.is("taken", x.router(1, 5), 1);
    }

    private static void delaysEndInTheirTick() {
        DUE.sentence("6 DELAY, 1 .. 50 (1)");
        for (int delay : new int[] {1, 2, 49, 50}) {
            StandInLan x = new StandInLan();
            x.set(0, 6, delay);
            x.start(0);
            x.ask(0);
            for (int left = delay; left > 0; left--) {
                DUE.is("frame(0, -1)", x.frame(0, -1), left);
                DUE.is("flying()", x.flying(), 1);
                x.tick(1);
            }
            DUE.is("flying() after " + delay, x.flying(), 0);
        }
    }

    private static StandInLan withOnTheWay(int count, int delay) {
        StandInLan x = new StandInLan();
        x.start(0);
        x.set(0, 6, delay);
        for (int i = 0; i < count; i++) {
            x.ask(0);
        }
        return x;
    }

    private static void sixtyAreOnTheWayAndOneMoreIsLost() {
        DUE.sentence("At most 60 frames are on the way; one more is lost.");
        for (int count : new int[] {58, 59, 60, 61, 62}) {
            StandInLan x = withOnTheWay(count, 50);
            DUE.is("flying() of " + count, x.flying(), Math.min(60, count));
            DUE.is("sent of " + count, x.router(0, 6), count);
            DUE.is("frame(59, -2) of " + count, x.frame(59, -2), count > 59 ? 3 : StandInLan.NONE);
            DUE.is("frame(60, -2) of " + count, x.frame(60, -2), StandInLan.NONE);
        }
        StandInLan x = withOnTheWay(59, 50);
        x.set(1, 0, 255);
        x.start(1);
        DUE.is("the advertisement found room", x.frame(59, -2), 1);
        DUE.is("the announcement did not", x.flying(), 60);
        DUE.is("both were sent", x.router(1, 6), 2);
        StandInLan y = withOnTheWay(60, 50);
        y.set(1, 0, 255);
        y.start(2);
        y.start(1);
        y.tick(99);
        DUE.is("an advertisement that was lost comes never", y.router(2, 5), 0);
        y.tick(2);
        DUE.is("the next one comes", y.router(2, 5), 1);
    }

    private static void oneMoreThanSixtyStillTeachesTheSwitch() {
        DUE.sentence("Else the switch learns .. At most 60 frames are on the way; one more is lost.");
        StandInLan x = withOnTheWay(60, 50);
        x.start(1);
        x.ask(1);
        DUE.is("flying()", x.flying(), 60);
        DUE.is("port(1)", x.port(1), 1);
    }

    private static void oneThatArrivesMakesRoom() {
        DUE.sentence("(One that arrives is not on the way any more.)");
        StandInLan x = new StandInLan();
        x.set(1, 0, 255);
        x.set(2, 0, 255);
        x.start(1);
        x.start(2);
        x.tick(1);
        x.start(0);
        for (int i = 0; i < 60; i++) {
            x.ask(0);
        }
        x.tick(1);
        // While 59 more are still on the way, each question makes room for one of its two answers alone.
        DUE.is("flying()", x.flying(), 60);
        DUE.is("sent by 1", x.router(1, 6), 62);
        DUE.is("sent by 2", x.router(2, 6), 62);
        x.tick(1);
        DUE.is("the answers that found room are those of 1", x.router(0, 7), OWN + 1);
        StandInLan y = withOnTheWay(60, 1);
        y.tick(1);
        DUE.is("flying()", y.flying(), 0);
        y.ask(0);
        DUE.is("flying()", y.flying(), 1);
    }

    private static void framesArriveOnceAndWhenDue() {
        DUE.sentence("Then the frames that are due arrive");
        StandInLan x = new StandInLan();
        x.start(1);
        x.set(0, 0, 255);
        x.set(2, 0, 255);
        x.set(2, 6, 4);
        x.start(0);
        x.start(2);
        // The advertisement of 0 arrives in tick 1, that of 2 in tick 4.
        int[] taken = {1, 1, 1, 2, 2, 2};
        for (int tick = 1; tick <= 6; tick++) {
            x.tick(1);
            DUE.is("taken in tick " + tick, x.router(1, 5), taken[tick - 1]);
        }
        // One question is due in tick 7, two more in tick 56.
        x.set(1, 6, 50);
        x.ask(1);
        x.ask(1);
        x.set(1, 6, 1);
        x.ask(1);
        DUE.is("sent by 0 before", x.router(0, 6), 2);
        for (int tick = 7; tick <= 57; tick++) {
            x.tick(1);
            DUE.is("sent by 0 in tick " + tick, x.router(0, 6), tick < 56 ? 3 : 5);
        }
    }

    private static void dueFramesArriveInTheOrderOfSending() {
        DUE.sentence("the frames that are due arrive, in the order in which they were sent");
        for (int first = 1; first < 3; first++) {
            int second = 3 - first;
            StandInLan x = new StandInLan();
            x.set(1, 0, 255);
            x.set(2, 0, 255);
            x.start(0);
            x.start(1);
            x.start(2);
            x.tick(1);
            x.set(first, 6, 2);
            x.set(second, 7, 2);
            x.ask(0);
            x.tick(1);
            x.set(first, 7, 2);
            x.set(second, 7, 0);
            x.ask(0);
            x.tick(1);
            DUE.is("the first answer's ticks left", x.frame(0, -1), 1);
            DUE.is("the second answer's ticks left", x.frame(1, -1), 1);
            x.tick(1);
            DUE.is("noted last", x.router(0, 7), OWN + second);
        }
    }

    private static void oneFrameArrivesAtTheLeastPortFirst() {
        DUE.sentence("one frame at all its ports, the least first");
        for (int asks = 0; asks < 5; asks++) {
            StandInLan x = new StandInLan();
            for (int r = 4; r >= 0; r--) {
                x.set(r, 0, 255);
                x.set(r, 6, 1 + r);
                x.start(r);
            }
            x.tick(10);
            x.set(asks, 6, 1);
            x.ask(asks);
            x.ask(asks);
            x.tick(1);
            DUE.is("flying()", x.flying(), 8);
            int k = 0;
            for (int question = 0; question < 2; question++) {
                for (int r = 0; r < 5; r++) {
                    if (r != asks) {
                        DUE.is("the delay tells who sent frame " + k, x.frame(k, -1), 1 + r);
                        k++;
                    }
                }
            }
        }
    }

    private static void framesPassRoutersThatAreOff() {
        DUE.sentence("(not at routers that are OFF");
        StandInLan x = new StandInLan();
        x.set(0, 0, 255);
        x.set(0, 6, 3);
        x.start(1);
        x.start(0);
        x.tick(2);
        x.stop(1, true);
        x.start(2);
        x.tick(1);
        DUE.is("taken by one that is OFF by now", x.router(1, 5), 0);
        DUE.is("taken by one that was OFF at the sending", x.router(2, 5), 1);
        DUE.is("taken by one that is OFF", x.router(3, 5), 0);
    }

    private static void framesPassRoutersThatLoseThem() {
        DUE.sentence("or whose LOSS has 2");
        StandInLan x = new StandInLan();
        x.set(0, 0, 255);
        x.set(0, 6, 3);
        for (int r = 1; r < 5; r++) {
            x.start(r);
        }
        x.set(1, 7, 2);
        x.set(2, 7, 3);
        x.start(0);
        x.tick(2);
        x.set(1, 7, 0);
        x.set(2, 7, 1);
        x.set(3, 7, 2);
        x.set(4, 7, 3);
        x.tick(1);
        int[] due = {0, 1, 1, 0, 0};
        for (int r = 1; r < 5; r++) {
            DUE.is("taken by " + r + ", by its LOSS at the arrival", x.router(r, 5), due[r]);
        }
        DUE.is("it is on the way no more", x.flying(), 0);
    }

    private static void routersMindOnlyWhatIsForThem() {
        DUE.sentence("a router minds those to 15, to its own station, or, if it is ACTIVE, to 9");
        for (int third = 100; third < 256; third += 155) {
            StandInLan x = new StandInLan();
            x.set(2, 0, third);
            x.start(0);
            x.start(1);
            x.start(2);
            x.open(0, 1, 1, 7, 1);
            x.open(1, 0, 1000, 7, 1);
            x.open(2, 0, 1000, 7, 1);
            x.open(2, 1, 1000, 7, 1);
            x.tick(100);
            int last = x.flying() - 1;
            // Router 2 advertises in tick 100 if it is ACTIVE, after router 0 sent.
            int packet = x.frame(last, -2) == 2 ? last : last - 1;
            DUE.is("to", x.frame(packet, -4), 1);
            DUE.is("ports", x.frame(packet, -6), 30);
            x.tick(1);
            DUE.is("heard by 1", x.session(1, 0, 2), 2);
            DUE.is("heard by 2", x.session(2, 0, 2), 0);
            x.ask(0);
            x.tick(1);
            DUE.is("what is for all is minded by an ACTIVE one", x.flying(), third == 255 ? 1 : 0);
        }
    }

    private static void framesArriveBeforeTimersRun() {
        DUE.sentence("Then the frames that are due arrive .. Then router by router .. its timer");
        StandInLan x = new StandInLan();
        x.start(0);
        x.tick(358);
        x.set(1, 0, 255);
        x.set(1, 6, 2);
        x.start(1);
        x.tick(1);
        DUE.router(x, 0, 1, 1);
        x.tick(1);
        DUE.router(x, 0, 1, 359, 100, 100, 0, 1, 0);
        StandInLan y = new StandInLan();
        y.start(0);
        y.tick(358);
        y.set(1, 0, 255);
        y.set(1, 6, 3);
        y.start(1);
        y.tick(2);
        DUE.router(y, 0, 2, 100, 100, 100, 1, 0, 2);
    }

    private static void leastRoutersComeFirst() {
        DUE.sentence("Then router by router, the least first, those that are not OFF");
        StandInLan x = new StandInLan();
        int[] order = {3, 0, 4, 1};
        for (int r : order) {
            x.set(r, 1, 4);
            x.set(r, 6, 1 + r);
            x.start(r);
            x.open(r, 2, 1, 1, 1);
        }
        for (int i = 0; i < 100; i += 10) {
            for (int r : order) {
                Tapes.advertise(x, r, 255, 20, 1);
            }
            x.tick(10);
        }
        int[] due = {0, 1, 3, 4};
        DUE.is("flying()", x.flying(), 4);
        for (int k = 0; k < 4; k++) {
            DUE.is("frame(" + k + ", -3)", x.frame(k, -3), due[k]);
        }
    }

    private static void theTimerComesBeforeTheSessions() {
        DUE.sentence("its timer; then session by session");
        StandInLan x = new StandInLan();
        x.set(0, 1, 10);
        x.set(0, 8, 30);
        x.set(0, 9, 2);
        x.start(0);
        x.open(0, 1, 1000, 6, 1);
        Tapes.bytes(x, Tapes.packet(2, 0, 6, 17, 2, 1, 1));
        x.arrive(0, 2, 1, 255, 0);
        DUE.router(x, 0, 1, 36, 100);
        DUE.is("DETECT", x.session(0, 1, 5), 36);
        x.tick(36);
        DUE.is("the advertisement is by the STATE before DETECT fired", x.frame(0, 2), 100);
        DUE.router(x, 0, 2, 10, 70);
        x.tick(10);
        DUE.is("the next one is by the STATE after it", x.frame(0, 2), 70);
    }

    private static void leastSessionsComeFirst() {
        DUE.sentence("then session by session, the least other router first");
        for (int r = 0; r < 5; r++) {
            StandInLan x = new StandInLan();
            x.start(r);
            for (int s = 4; s >= 0; s--) {
                if (s != r) {
                    x.open(r, s, 1, 1, 1);
                }
            }
            x.tick(100);
            DUE.is("flying()", x.flying(), 4);
            for (int k = 0; k < 4; k++) {
                DUE.is("frame(" + k + ", -4)", x.frame(k, -4), k < r ? k : k + 1);
            }
        }
    }

    private static void detectComesBeforeSend() {
        DUE.sentence("first the timer DETECT, then the timer SEND");
        StandInLan x = Tapes.withSession(3, 30, 30, 3);
        Tapes.bytes(x, Tapes.packet(3, 0, 1, 17, 2, 1, 1));
        x.arrive(0, 2, 1, 255, 0);
        DUE.session(x, 0, 1, 3, 3, 17, 0, 30, 30);
        x.tick(30);
        DUE.is("DIAGNOSIS is sent", x.frame(0, 0), 33);
        DUE.is("STATE is sent", x.frame(0, 1), 64);
        DUE.is("REMOTE number is sent", x.frame(0, 11), 0);
        DUE.is("TX is sent", x.frame(0, 15), 100);
        DUE.is("SEND is set as while it is not UP", x.session(0, 1, 4), 100);
    }
}
