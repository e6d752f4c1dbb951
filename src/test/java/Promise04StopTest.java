/** Promise 4: stop. */
public final class Promise04StopTest {
    private static final Due DUE = new Due("Promise04StopTest");

    public static void main(String[] args) {
        activeOnesSayGoodbye();
        crashesAreSilent();
        backupsAreSilent();
        whatItKnewIsGone();
        wrongCallsAreRefused();
        DUE.end();
    }

    private static StandInLan withOwner() {
        StandInLan x = new StandInLan();
        x.set(4, 0, 255);
        x.set(4, 6, 3);
        x.start(4);
        return x;
    }

    private static void activeOnesSayGoodbye() {
        StandInLan x = withOwner();
        x.stop(4, false);
        DUE.router(x, 4, 0, 0, 0, 0, 1, 0, 3, 0);
        DUE.is("flying()", x.flying(), 3);
        DUE.frame(x, 2, new int[] {3, 1, 9, 15, 12, 15}, Tapes.advertisement(1, 0, 100, 167772400, 167772164));
        x.start(0);
        x.tick(3);
        DUE.is("what was on the way arrives", x.router(0, 5), 2);
        DUE.is("the goodbye sets the timer to SKEW", x.router(0, 1), 59);
    }

    private static void crashesAreSilent() {
        StandInLan x = withOwner();
        x.stop(4, true);
        DUE.router(x, 4, 0, 0, 0, 0, 1, 0, 2, 0);
        DUE.is("flying()", x.flying(), 2);
        DUE.is("port(9) stays", x.port(9), 4);
        x.tick(400);
        DUE.router(x, 4, 0, 0, 0, 0, 1, 0, 2, 0);
    }

    private static void backupsAreSilent() {
        StandInLan x = new StandInLan();
        x.start(0);
        x.stop(0, false);
        DUE.router(x, 0, 0, 0, 0, 0, 0, 0, 0, 0);
        DUE.is("flying()", x.flying(), 0);
    }

    private static void whatItKnewIsGone() {
        StandInLan x = new StandInLan();
        x.set(1, 0, 255);
        x.start(1);
        x.start(0);
        x.tick(1);
        x.ask(0);
        x.tick(2);
        x.open(0, 1, 10, 10, 3);
        x.open(0, 2, 10, 10, 3);
        x.set(0, 8, 10);
        x.set(0, 9, 31);
        DUE.is("WEIGHED with sessions", x.router(0, 2), 80);
        x.stop(0, false);
        DUE.router(x, 0, 0, 0, 0, 0, 0, 1, 1, 167772161);
        DUE.is("session(0, 1, 0)", x.session(0, 1, 0), StandInLan.NONE);
        DUE.is("session(0, 2, 4)", x.session(0, 2, 4), StandInLan.NONE);
        x.start(0);
        DUE.router(x, 0, 1, 360, 100, 100, 0, 1, 1, 167772161);
        DUE.is("session(0, 1, 0) after a new start", x.session(0, 1, 0), StandInLan.NONE);
        x.tick(200);
        DUE.is("no session sends", x.router(0, 6), 1);
    }

    private static void wrongCallsAreRefused() {
        StandInLan x = new StandInLan();
        for (int r : new int[] {-1, 5, Integer.MIN_VALUE, Integer.MAX_VALUE}) {
            DUE.outside("stop(" + r + ", true)", () -> x.stop(r, true));
            DUE.outside("stop(" + r + ", false)", () -> x.stop(r, false));
        }
        DUE.untimely("stop(0, false)", () -> x.stop(0, false));
        x.start(0);
        x.stop(0, true);
        DUE.untimely("stop(0, true) again", () -> x.stop(0, true));
    }
}
