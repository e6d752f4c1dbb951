/** Promise 1: a new object. */
public final class Promise01NewObjectTest {
    private static final Due DUE = new Due("Promise01NewObjectTest");

    public static void main(String[] args) {
        nothingIsThere();
        settingsAreAsAtFirst();
        objectsShareNothing();
        DUE.end();
    }

    private static void nothingIsThere() {
        StandInLan x = new StandInLan();
        for (int r = 0; r < 5; r++) {
            DUE.router(x, r, 0, 0, 0, 0, 0, 0, 0, 0);
            for (int s = 0; s < 5; s++) {
                for (int what = 0; what < 12; what++) {
                    DUE.is("session(" + r + ", " + s + ", " + what + ")", x.session(r, s, what), StandInLan.NONE);
                }
            }
        }
        for (int station = 0; station < 16; station++) {
            DUE.is("port(" + station + ")", x.port(station), StandInLan.NONE);
        }
        DUE.is("flying()", x.flying(), 0);
        for (int i = -6; i < 2; i++) {
            DUE.is("frame(0, " + i + ")", x.frame(0, i), StandInLan.NONE);
        }
        DUE.is("tick(1)", x.tick(1), 1);
        DUE.is("flying() after a tick with all OFF", x.flying(), 0);
        for (int i = 0; i < 5; i++) {
            DUE.yes("type of 8 bytes on an empty tape", x.type(0, 8));
        }
        DUE.no("type of byte 41", x.type(0, 1));
    }

    private static void settingsAreAsAtFirst() {
        for (int r = 0; r < 5; r++) {
            StandInLan x = new StandInLan();
            x.start(r);
            DUE.router(x, r, 1, 360, 100, 100);
            x.tick(360);
            DUE.is("state", x.router(r, 0), 2);
            DUE.frame(x, 0, new int[] {1, 1, 9, 15, 12, 31 - (1 << r)},
                Tapes.advertisement(1, 100, 100, 167772400, 167772160 + r));
        }
        StandInLan x = new StandInLan();
        x.start(0);
        x.tick(5);
        DUE.yes("an advertisement comes", Tapes.advertise(x, 0, 99, 100, 1));
        DUE.is("a lesser one sets no timer, for PREEMPT is 1", x.router(0, 1), 355);
        x.open(0, 1, 10, 10, 3);
        x.set(0, 9, 31);
        DUE.is("WEIGHED, for WEIGHT is 0", x.router(0, 2), 100);
        for (int r = 0; r < 5; r++) {
            StandInLan y = new StandInLan();
            y.start(r);
            for (int s = 0; s < 5; s++) {
                if (s != r) {
                    y.open(r, s, 10, 10, 3);
                }
            }
            y.set(r, 8, 50);
            DUE.is("WEIGHED of " + r + ", for TRACKED is 0", y.router(r, 2), 100);
        }
    }

    private static void objectsShareNothing() {
        StandInLan x = new StandInLan();
        StandInLan y = new StandInLan();
        x.set(0, 0, 255);
        x.start(0);
        x.type(1, 1);
        x.tick(1);
        DUE.router(y, 0, 0, 0, 0, 0, 0, 0, 0, 0);
        DUE.is("tick(1) of the other", y.tick(1), 1);
        y.start(0);
        DUE.is("WEIGHED of the other", y.router(0, 2), 100);
        DUE.is("port(9) of the other", y.port(9), StandInLan.NONE);
        DUE.yes("the other's tape is empty", Tapes.advertise(y, 0, 100, 100, 7));
    }
}
