/** Promise 11: router, with what is counted. */
public final class Promise11RouterTest {
    private static final Due DUE = new Due("Promise11RouterTest");

    public static void main(String[] args) {
        othersAreNone();
        rowsFollowALife();
        takenOnesAreCounted();
        DUE.end();
    }

    private static void othersAreNone() {
        StandInLan x = new StandInLan();
        x.start(0);
        for (int bad : new int[] {-1, 8, 9, Integer.MIN_VALUE, Integer.MAX_VALUE}) {
            DUE.is("router(0, " + bad + ")", x.router(0, bad), StandInLan.NONE);
            DUE.is("router(1, " + bad + ") of one OFF", x.router(1, bad), StandInLan.NONE);
        }
        for (int bad : new int[] {-1, 5, Integer.MIN_VALUE, Integer.MAX_VALUE}) {
            for (int what = -1; what < 9; what++) {
                DUE.is("router(" + bad + ", " + what + ")", x.router(bad, what), StandInLan.NONE);
            }
        }
    }

    private static void rowsFollowALife() {
        StandInLan x = new StandInLan();
        DUE.router(x, 0, 0, 0, 0, 0, 0, 0, 0, 0);
        x.set(0, 1, 50);
        x.start(0);
        DUE.router(x, 0, 1, 180, 100, 50, 0, 0, 0, 0);
        x.tick(180);
        DUE.router(x, 0, 2, 50, 100, 50, 1, 0, 2, 0);
        x.tick(49);
        DUE.router(x, 0, 2, 1, 100, 50, 1, 0, 2, 0);
        x.tick(1);
        DUE.router(x, 0, 2, 50, 100, 50, 1, 0, 3, 0);
        x.set(0, 7, 1);
        x.tick(50);
        DUE.router(x, 0, 2, 50, 100, 50, 1, 0, 4, 0);
        DUE.is("flying()", x.flying(), 0);
        Tapes.advertise(x, 0, 101, 20, 9);
        DUE.router(x, 0, 1, 72, 100, 20, 1, 1, 4, 0);
        x.tick(72);
        DUE.router(x, 0, 2, 50, 100, 20, 2, 1, 6, 0);
        x.stop(0, false);
        DUE.router(x, 0, 0, 0, 0, 0, 2, 1, 7, 0);
        x.start(0);
        DUE.router(x, 0, 1, 180, 100, 50, 2, 1, 7, 0);
    }

    private static void takenOnesAreCounted() {
        StandInLan x = new StandInLan();
        x.start(0);
        Tapes.advertise(x, 0, 1, 100, 9);
        DUE.is("one that sets nothing is taken too", x.router(0, 5), 1);
        Tapes.advertise(x, 0, 0, 100, 9);
        Tapes.advertise(x, 0, 255, 100, 9);
        DUE.is("taken", x.router(0, 5), 3);
        Tapes.bytes(x, 49, 1, 255, 1);
        x.arrive(0, 1, 9, 255, 9);
        DUE.is("not taken", x.router(0, 5), 3);
        DUE.is("of another router", x.router(1, 5), 0);
    }
}
