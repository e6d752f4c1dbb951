/** Promise 2: set. */
public final class Promise02SetTest {
    private static final Due DUE = new Due("Promise02SetTest");
    private static final int[][] RANGES = {
        {1, 255}, {1, 4095}, {0, 1}, {1, 255}, null, null, {1, 50}, {0, 3}, {0, 254}, {0, 31}};

    public static void main(String[] args) {
        rangesHold();
        firstExceptionCounts();
        settingsAreSent();
        noTimerIsSet();
        settingsAreKeptWhenOff();
        settingsCountFromNowOn();
        DUE.end();
    }

    private static void rangesHold() {
        for (int what = 0; what < 10; what++) {
            StandInLan x = new StandInLan();
            int w = what;
            if (RANGES[what] == null) {
                x.set(4, what, Integer.MIN_VALUE);
                x.set(4, what, Integer.MAX_VALUE);
                x.set(4, what, 0);
                x.set(4, what, -1);
                continue;
            }
            x.set(0, what, RANGES[what][0]);
            x.set(4, what, RANGES[what][1]);
            for (int v : new int[] {RANGES[what][0] - 1, RANGES[what][1] + 1, Integer.MIN_VALUE, Integer.MAX_VALUE}) {
                DUE.unfit("set(0, " + what + ", " + v + ")", () -> x.set(0, w, v));
            }
        }
    }

    private static void firstExceptionCounts() {
        StandInLan x = new StandInLan();
        for (int r : new int[] {-1, 5, Integer.MIN_VALUE, Integer.MAX_VALUE}) {
            DUE.outside("set(" + r + ", 0, 100)", () -> x.set(r, 0, 100));
            DUE.outside("set(" + r + ", 0, 0)", () -> x.set(r, 0, 0));
        }
        for (int what : new int[] {-1, 10, Integer.MIN_VALUE, Integer.MAX_VALUE}) {
            DUE.outside("set(0, " + what + ", 1)", () -> x.set(0, what, 1));
        }
        x.set(0, 0, 7);
        DUE.unfit("set(0, 0, 256)", () -> x.set(0, 0, 256));
        x.start(0);
        DUE.is("what was refused changed nothing", x.router(0, 2), 7);
    }

    private static void settingsAreSent() {
        StandInLan x = new StandInLan();
        x.set(3, 0, 255);
        x.set(3, 1, 4095);
        x.set(3, 3, 200);
        x.set(3, 4, -1);
        x.set(3, 5, -2);
        x.set(3, 6, 50);
        x.start(3);
        DUE.router(x, 3, 2, 4095, 255, 4095, 1, 0, 2, 0);
        DUE.frame(x, 0, new int[] {50, 1, 9, 15, 12, 23}, Tapes.advertisement(200, 255, 4095, -2, -1));
    }

    private static void noTimerIsSet() {
        StandInLan x = new StandInLan();
        x.start(0);
        x.open(0, 1, 10, 10, 3);
        x.set(0, 0, 200);
        x.set(0, 1, 7);
        x.set(0, 8, 50);
        x.set(0, 9, 2);
        DUE.router(x, 0, 1, 360, 150, 100);
        DUE.is("SEND", x.session(0, 1, 4), 100);
        x.set(0, 0, 255);
        DUE.router(x, 0, 1, 360, 255, 100, 0);
        x.tick(360);
        DUE.is("the timer is INTERVAL when it is set anew", x.router(0, 1), 7);
        DUE.is("known is still that of the start", x.router(0, 3), 100);
    }

    private static void settingsAreKeptWhenOff() {
        StandInLan x = new StandInLan();
        x.set(0, 0, 10);
        x.start(0);
        x.set(0, 1, 20);
        x.stop(0, false);
        x.set(0, 3, 9);
        DUE.is("WEIGHED of one that is OFF", x.router(0, 2), 0);
        x.start(0);
        DUE.router(x, 0, 1, 79, 10, 20);
        x.tick(79);
        DUE.is("GROUP in the packet", x.frame(0, 1), 9);
    }

    private static void settingsCountFromNowOn() {
        StandInLan x = new StandInLan();
        x.start(0);
        x.ask(0);
        x.set(0, 6, 9);
        x.ask(0);
        DUE.is("DELAY as it was", x.frame(0, -1), 1);
        DUE.is("DELAY as it is", x.frame(1, -1), 9);
        x.set(0, 7, 1);
        x.ask(0);
        DUE.is("LOSS 1: nothing goes", x.flying(), 2);
        x.set(0, 7, 3);
        x.ask(0);
        DUE.is("LOSS 3: nothing goes", x.flying(), 2);
        x.set(0, 7, 2);
        x.ask(0);
        DUE.is("LOSS 2: what it sends goes", x.flying(), 3);
        DUE.is("all were counted", x.router(0, 6), 5);
    }
}
