/** Promise 3: start. */
public final class Promise03StartTest {
    private static final Due DUE = new Due("Promise03StartTest");

    public static void main(String[] args) {
        backupsWatch();
        ownersAreActiveAtOnce();
        wrongCallsAreRefused();
        DUE.end();
    }

    private static void backupsWatch() {
        int[][] rows = {{100, 100, 360}, {120, 100, 353}, {110, 100, 357}, {1, 100, 399}, {254, 1, 3}, {254, 127, 381},
            {254, 128, 385}, {1, 4095, 16364}, {1, 1, 3}, {100, 4095, 14780}};
        for (int[] row : rows) {
            StandInLan x = new StandInLan();
            x.set(2, 0, row[0]);
            x.set(2, 1, row[1]);
            x.start(2);
            DUE.router(x, 2, 1, row[2], row[0], row[1], 0, 0, 0, 0);
            DUE.is("flying()", x.flying(), 0);
            DUE.is("port(9)", x.port(9), StandInLan.NONE);
        }
    }

    private static void ownersAreActiveAtOnce() {
        StandInLan x = new StandInLan();
        x.set(1, 0, 255);
        x.set(1, 8, 254);
        x.set(1, 9, 31);
        x.start(1);
        DUE.router(x, 1, 2, 100, 255, 100, 1, 0, 2, 0);
        DUE.is("flying()", x.flying(), 2);
        DUE.frame(x, 0, new int[] {1, 1, 9, 15, 12, 29},
            Tapes.advertisement(1, 255, 100, 167772400, 167772161));
        DUE.frame(x, 1, new int[] {1, 3, 9, 15, 0, 29});
        DUE.is("port(9)", x.port(9), 1);
        DUE.is("port(1)", x.port(1), StandInLan.NONE);
        x.open(1, 0, 10, 10, 3);
        x.stop(1, true);
        x.start(1);
        DUE.router(x, 1, 2, 100, 255, 100, 2, 0, 4, 0);
        DUE.is("a started one has no session", x.session(1, 0, 0), StandInLan.NONE);
    }

    private static void wrongCallsAreRefused() {
        StandInLan x = new StandInLan();
        for (int r : new int[] {-1, 5, Integer.MIN_VALUE, Integer.MAX_VALUE}) {
            DUE.outside("start(" + r + ")", () -> x.start(r));
        }
        x.start(0);
        x.tick(10);
        DUE.untimely("start(0) of a BACKUP", () -> x.start(0));
        DUE.is("its timer went on", x.router(0, 1), 350);
        x.tick(350);
        DUE.untimely("start(0) of an ACTIVE one", () -> x.start(0));
        DUE.router(x, 0, 2, 100, 100, 100, 1, 0, 2, 0);
    }
}
