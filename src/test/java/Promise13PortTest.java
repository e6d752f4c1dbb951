/** Promise 13: port, with what the switch learns. */
public final class Promise13PortTest {
    private static final Due DUE = new Due("Promise13PortTest");

    public static void main(String[] args) {
        othersAreNone();
        theSwitchLearnsBySending();
        theVirtualOneMoves();
        lostOnesTeachOrNot();
        knownPortsAreUsed();
        DUE.end();
    }

    private static void othersAreNone() {
        StandInLan x = new StandInLan();
        for (int r = 0; r < 5; r++) {
            x.set(r, 0, 255);
            x.start(r);
            x.ask(r);
        }
        for (int station = -1; station < 18; station++) {
            int want = station >= 0 && station < 5 ? station : station == 9 ? 4 : StandInLan.NONE;
            DUE.is("port(" + station + ")", x.port(station), want);
        }
        DUE.is("port(MIN)", x.port(Integer.MIN_VALUE), StandInLan.NONE);
        DUE.is("port(MAX)", x.port(Integer.MAX_VALUE), StandInLan.NONE);
    }

    private static void theSwitchLearnsBySending() {
        StandInLan x = new StandInLan();
        x.start(2);
        DUE.is("port(2) after a start", x.port(2), StandInLan.NONE);
        x.open(2, 0, 1, 1, 1);
        x.tick(99);
        DUE.is("port(2) before it sends", x.port(2), StandInLan.NONE);
        x.tick(1);
        DUE.is("port(2) as soon as it sent", x.port(2), 2);
        x.stop(2, true);
        DUE.is("port(2) is kept", x.port(2), 2);
    }

    private static void theVirtualOneMoves() {
        StandInLan x = new StandInLan();
        x.set(0, 0, 255);
        x.start(0);
        x.start(1);
        DUE.is("port(9)", x.port(9), 0);
        x.tick(1);
        x.stop(0, true);
        x.tick(359);
        DUE.is("port(9)", x.port(9), 1);
        DUE.is("port(1)", x.port(1), StandInLan.NONE);
        x.start(0);
        DUE.is("port(9)", x.port(9), 0);
    }

    private static void lostOnesTeachOrNot() {
        StandInLan x = new StandInLan();
        x.start(0);
        x.start(1);
        x.set(1, 7, 1);
        x.ask(1);
        DUE.is("LOSS 1: the switch does not see it", x.port(1), StandInLan.NONE);
        x.set(1, 7, 2);
        x.ask(1);
        DUE.is("LOSS 2", x.port(1), 1);
        x.set(0, 6, 50);
        for (int i = 0; i < 59; i++) {
            x.ask(0);
        }
        x.start(2);
        x.ask(2);
        DUE.is("flying()", x.flying(), 60);
        DUE.is("one more is lost behind the switch", x.port(2), 2);
    }

    private static void knownPortsAreUsed() {
        StandInLan x = new StandInLan();
        x.start(0);
        x.start(1);
        x.start(2);
        x.open(0, 1, 1, 1, 1);
        x.open(2, 0, 1, 1, 1);
        x.tick(100);
        DUE.frame(x, 0, new int[] {1, 2, 0, 1, 24, 30}, 32, 64, 1, 24, 0, 0, 0, 2, 0, 0, 0, 0,
            0, 0, 0, 100, 0, 0, 0, 1, 0, 0, 0, 0);
        DUE.is("0 is known when 2 sends", x.frame(1, -6), 1);
        x.tick(1);
        DUE.session(x, 2, 0, 1, 1, 0, 0);
        DUE.is("flying()", x.flying(), 0);
        x.ask(1);
        x.tick(99);
        DUE.is("1 is known by now", x.frame(0, -6), 2);
        DUE.is("0 is known", x.frame(1, -6), 1);
    }
}
