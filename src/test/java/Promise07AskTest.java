/** Promise 7: ask. */
public final class Promise07AskTest {
    private static final Due DUE = new Due("Promise07AskTest");

    public static void main(String[] args) {
        activeOnesAnswer();
        othersDoNotAnswer();
        anActiveOneMayAsk();
        wrongCallsAreRefused();
        DUE.end();
    }

    private static void activeOnesAnswer() {
        StandInLan x = new StandInLan();
        x.set(0, 0, 255);
        x.set(0, 4, -5);
        x.start(0);
        x.start(3);
        x.start(4);
        x.tick(1);
        x.ask(3);
        DUE.is("flying()", x.flying(), 1);
        DUE.frame(x, 0, new int[] {1, 3, 3, 15, 0, 23});
        DUE.is("port(3)", x.port(3), 3);
        DUE.is("sent", x.router(3, 6), 1);
        x.tick(1);
        DUE.is("flying()", x.flying(), 1);
        DUE.frame(x, 0, new int[] {1, 4, 9, 3, 0, 8});
        DUE.is("sent by the ACTIVE one", x.router(0, 6), 3);
        DUE.is("noted before", x.router(3, 7), 0);
        x.set(0, 4, 6);
        x.tick(1);
        DUE.is("noted is the ADDRESS at the sending", x.router(3, 7), -5);
        DUE.is("noted by another", x.router(4, 7), 0);
        x.ask(3);
        x.tick(2);
        DUE.is("noted last", x.router(3, 7), 6);
        x.set(0, 7, 1);
        x.set(0, 4, 7);
        x.ask(3);
        x.tick(2);
        DUE.is("noted last stays, the answer was lost", x.router(3, 7), 6);
    }

    private static void othersDoNotAnswer() {
        StandInLan x = new StandInLan();
        x.start(0);
        x.start(1);
        x.ask(0);
        x.tick(1);
        DUE.is("flying()", x.flying(), 0);
        DUE.is("sent by the BACKUP", x.router(1, 6), 0);
        x.set(2, 0, 255);
        x.set(3, 0, 255);
        x.start(2);
        x.start(3);
        x.tick(1);
        DUE.is("announcing is no asking", x.flying(), 0);
        x.set(2, 7, 2);
        x.ask(0);
        x.tick(1);
        DUE.is("what comes to 2 is lost, 3 answers", x.flying(), 1);
        DUE.is("sent by 2", x.router(2, 6), 2);
        DUE.is("sent by 3", x.router(3, 6), 3);
    }

    private static void anActiveOneMayAsk() {
        StandInLan x = new StandInLan();
        x.set(1, 0, 255);
        x.start(1);
        x.tick(1);
        x.ask(1);
        DUE.frame(x, 0, new int[] {1, 3, 1, 15, 0, 29});
        x.tick(1);
        DUE.is("nobody answers", x.flying(), 0);
        DUE.is("noted", x.router(1, 7), 0);
    }

    private static void wrongCallsAreRefused() {
        StandInLan x = new StandInLan();
        for (int r : new int[] {-1, 5, Integer.MIN_VALUE, Integer.MAX_VALUE}) {
            DUE.outside("ask(" + r + ")", () -> x.ask(r));
        }
        for (int r = 0; r < 5; r++) {
            int off = r;
            DUE.untimely("ask(" + r + ")", () -> x.ask(off));
            DUE.is("sent", x.router(r, 6), 0);
        }
        DUE.is("flying()", x.flying(), 0);
    }
}
