/** Promise 8: tick, and the order of things in one. */
public final class Promise08TickTest {
    private static final Due DUE = new Due("Promise08TickTest");

    public static void main(String[] args) {
        theClockIsAnswered();
        framesComeBeforeTimers();
        timersComeBeforeSessions();
        detectComesBeforeSend();
        sessionsComeLeastFirst();
        framesComeAsTheyWereSent();
        aShorterWayIsFaster();
        oneAtATimeIsTheSame();
        DUE.end();
    }

    private static void theClockIsAnswered() {
        StandInLan x = new StandInLan();
        DUE.is("tick(1)", x.tick(1), 1);
        DUE.is("tick(400)", x.tick(400), 401);
        for (int n : new int[] {0, -1, 401, Integer.MIN_VALUE, Integer.MAX_VALUE}) {
            DUE.unfit("tick(" + n + ")", () -> x.tick(n));
        }
        DUE.is("tick(7)", x.tick(7), 408);
    }

    private static void framesComeBeforeTimers() {
        StandInLan x = new StandInLan();
        x.start(1);
        x.tick(359);
        DUE.router(x, 1, 1, 1);
        x.set(0, 0, 255);
        x.start(0);
        x.tick(1);
        DUE.router(x, 1, 1, 359, 100, 100, 0, 1, 0, 0);
    }

    private static void timersComeBeforeSessions() {
        StandInLan x = new StandInLan();
        for (int r = 0; r < 2; r++) {
            x.set(r, 0, 1);
            x.start(r);
            x.open(r, 4, 399, 1, 1);
        }
        x.tick(399);
        int[] kinds = {1, 3, 2, 1, 3, 2};
        DUE.is("flying()", x.flying(), 6);
        for (int k = 0; k < 6; k++) {
            DUE.is("frame(" + k + ", -2)", x.frame(k, -2), kinds[k]);
            DUE.is("frame(" + k + ", -6)", x.frame(k, -6), k < 3 ? 30 : 29);
        }
    }

    private static void detectComesBeforeSend() {
        StandInLan x = Tapes.withSession(3, 50, 60, 3);
        x.tick(299);
        DUE.session(x, 0, 1, 3, 2, 17, 0, 1, 1);
        x.tick(1);
        DUE.is("flying()", x.flying(), 1);
        DUE.frame(x, 0, new int[] {1, 2, 0, 1, 24, 30}, 33, 64, 3, 24, 0, 0, 0, 2, 0, 0, 0, 0,
            0, 0, 0, 100, 0, 0, 0, 60, 0, 0, 0, 0);
        DUE.session(x, 0, 1, 1, 2, 0, 1, 100, 0, 50, 60, 0, 1, 100, 1);
    }

    private static void sessionsComeLeastFirst() {
        StandInLan x = new StandInLan();
        x.start(2);
        x.open(2, 4, 1, 1, 1);
        x.open(2, 0, 1, 1, 1);
        x.open(2, 3, 1, 1, 1);
        x.tick(100);
        DUE.is("flying()", x.flying(), 3);
        DUE.is("to", x.frame(0, -4), 0);
        DUE.is("to", x.frame(1, -4), 3);
        DUE.is("to", x.frame(2, -4), 4);
    }

    private static void framesComeAsTheyWereSent() {
        StandInLan x = new StandInLan();
        x.set(2, 0, 255);
        x.set(3, 0, 255);
        x.start(3);
        x.start(2);
        x.start(0);
        x.start(1);
        x.tick(1);
        x.set(2, 6, 2);
        x.set(3, 6, 3);
        x.ask(1);
        x.ask(0);
        x.tick(1);
        int[] to = {1, 1, 0, 0};
        int[] left = {2, 3, 2, 3};
        DUE.is("flying()", x.flying(), 4);
        for (int k = 0; k < 4; k++) {
            DUE.frame(x, k, new int[] {left[k], 4, 9, to[k], 0, 1 << to[k]});
        }
        x.tick(2);
        DUE.is("flying()", x.flying(), 2);
        DUE.is("noted", x.router(1, 7), 167772162);
        DUE.frame(x, 0, new int[] {1, 4, 9, 1, 0, 2});
        DUE.frame(x, 1, new int[] {1, 4, 9, 0, 0, 1});
        x.tick(1);
        DUE.is("noted", x.router(1, 7), 167772163);
        DUE.is("flying()", x.flying(), 0);
    }

    private static void aShorterWayIsFaster() {
        StandInLan x = new StandInLan();
        x.start(0);
        x.start(1);
        x.set(0, 6, 50);
        x.ask(0);
        x.set(0, 6, 2);
        x.ask(0);
        x.set(1, 6, 1);
        x.ask(1);
        int[] left = {50, 2, 1};
        for (int k = 0; k < 3; k++) {
            DUE.is("frame(" + k + ", -1)", x.frame(k, -1), left[k]);
        }
        x.tick(1);
        DUE.is("flying()", x.flying(), 2);
        DUE.is("frame(0, -1)", x.frame(0, -1), 49);
        DUE.is("frame(1, -1)", x.frame(1, -1), 1);
        x.tick(1);
        DUE.is("flying()", x.flying(), 1);
        DUE.is("frame(0, -1)", x.frame(0, -1), 48);
        x.tick(48);
        DUE.is("flying()", x.flying(), 0);
    }

    private static void oneAtATimeIsTheSame() {
        StandInLan x = lively();
        StandInLan y = lively();
        x.tick(300);
        for (int i = 0; i < 300; i++) {
            y.tick(1);
        }
        for (int r = 0; r < 5; r++) {
            for (int what = 0; what < 8; what++) {
                DUE.is("router(" + r + ", " + what + ")", x.router(r, what), y.router(r, what));
            }
            for (int s = 0; s < 5; s++) {
                for (int what = 0; what < 12; what++) {
                    DUE.is("session(" + r + ", " + s + ", " + what + ")",
                        x.session(r, s, what), y.session(r, s, what));
                }
            }
        }
        DUE.is("flying()", x.flying(), y.flying());
    }

    private static StandInLan lively() {
        StandInLan x = new StandInLan();
        for (int r = 0; r < 5; r++) {
            x.set(r, 0, 100 + r);
            x.set(r, 1, 10 + r);
            x.start(r);
            for (int s = 0; s < 5; s++) {
                if (s != r) {
                    x.open(r, s, 1 + r, 1 + s, 2);
                }
            }
        }
        return x;
    }
}
