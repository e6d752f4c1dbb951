/** Promise 6: change. */
public final class Promise06ChangeTest {
    private static final Due DUE = new Due("Promise06ChangeTest");

    public static void main(String[] args) {
        ratesCountAtOnceUnlessUp();
        ratesAreTalkedOverInUp();
        easierRatesCountAtOnceInUp();
        theLastChangeCounts();
        aPollOutlivesUp();
        shutOnesGoOnSending();
        wrongCallsAreRefused();
        DUE.end();
    }

    private static void ratesCountAtOnceUnlessUp() {
        for (int state = 1; state < 3; state++) {
            StandInLan x = Tapes.withSession(state, 500, 60, 3);
            DUE.is("SEND", x.session(0, 1, 4), 500);
            x.change(0, 1, 200, 10);
            DUE.session(x, 0, 1, state);
            DUE.is("SEND comes nearer", x.session(0, 1, 4), 200);
            DUE.is("TX in use", x.session(0, 1, 6), 200);
            DUE.is("RX in use", x.session(0, 1, 7), 10);
            DUE.is("POLLS", x.session(0, 1, 8), 0);
            x.tick(1);
            x.change(0, 1, 300, 1000);
            DUE.is("SEND is not put off", x.session(0, 1, 4), 199);
            DUE.is("TX in use", x.session(0, 1, 6), 300);
            DUE.is("RX in use", x.session(0, 1, 7), 1000);
            x.change(0, 1, 1, 1);
            DUE.is("SEND, at least 100 while not UP", x.session(0, 1, 4), 100);
        }
    }

    private static void ratesAreTalkedOverInUp() {
        StandInLan x = Tapes.withSession(3, 50, 60, 3);
        DUE.session(x, 0, 1, 3, 2, 17, 0, 50, 300, 50, 60, 0, 1, 100, 1);
        x.change(0, 1, 80, 40);
        DUE.session(x, 0, 1, 3, 2, 17, 0, 50, 300, 50, 60, 1, 1, 100, 1);
        x.tick(50);
        DUE.is("flying()", x.flying(), 1);
        DUE.frame(x, 0, new int[] {1, 2, 0, 1, 24, 30}, 32, 224, 3, 24, 0, 0, 0, 2, 0, 0, 0, 17,
            0, 0, 0, 80, 0, 0, 0, 40, 0, 0, 0, 0);
        DUE.session(x, 0, 1, 3, 2, 17, 0, 50, 250, 50, 60, 1, 1, 100, 1);
        DUE.yes("no final bit", Tapes.tell(x, 0, 1, 3, 0, 20, 1));
        DUE.session(x, 0, 1, 3, 3, 17, 0, 50, 180, 50, 60, 1, 1, 20, 1);
        DUE.yes("a final bit", Tapes.tell(x, 0, 1, 3, 16, 20, 1));
        DUE.session(x, 0, 1, 3, 3, 17, 0, 50, 120, 80, 40, 0, 1, 20, 1);
        x.tick(50);
        DUE.is("SEND", x.session(0, 1, 4), 80);
        DUE.is("no poll bit any more", x.frame(0, 1), 192);
    }

    private static void easierRatesCountAtOnceInUp() {
        StandInLan x = Tapes.withSession(3, 50, 60, 3);
        x.tick(1);
        x.change(0, 1, 20, 90);
        DUE.session(x, 0, 1, 3, 2, 17, 0, 20, 299, 20, 90, 1, 1, 100, 1);
        x.change(0, 1, 20, 90);
        DUE.session(x, 0, 1, 3, 2, 17, 0, 20, 299, 20, 90, 1, 1, 100, 1);
        StandInLan y = Tapes.withSession(3, 50, 60, 3);
        y.change(0, 1, 49, 59);
        DUE.session(y, 0, 1, 3, 2, 17, 0, 49, 300, 49, 60, 1, 1, 100, 1);
        StandInLan z = Tapes.withSession(3, 50, 60, 3);
        z.change(0, 1, 51, 61);
        DUE.session(z, 0, 1, 3, 2, 17, 0, 50, 300, 50, 61, 1, 1, 100, 1);
    }

    private static void theLastChangeCounts() {
        StandInLan x = Tapes.withSession(3, 50, 60, 3);
        x.change(0, 1, 500, 1);
        x.change(0, 1, 70, 30);
        Tapes.tell(x, 0, 1, 3, 16, 100, 1);
        DUE.is("TX in use", x.session(0, 1, 6), 70);
        DUE.is("RX in use", x.session(0, 1, 7), 30);
        Tapes.tell(x, 0, 1, 3, 0, 100, 0);
        DUE.is("SEND is off", x.session(0, 1, 4), 0);
        x.change(0, 1, 5, 5);
        DUE.is("SEND stays off if ITS RX is 0", x.session(0, 1, 4), 0);
    }

    private static void aPollOutlivesUp() {
        StandInLan x = Tapes.withSession(3, 50, 60, 3);
        x.change(0, 1, 80, 40);
        Tapes.tell(x, 0, 1, 1, 0, 100, 1);
        DUE.session(x, 0, 1, 1, 1, 17, 3, 50, 300, 50, 60, 1, 1, 100, 1);
        x.tick(50);
        DUE.is("a poll bit while DOWN", x.frame(0, 1), 96);
        x.change(0, 1, 90, 30);
        DUE.is("TX in use", x.session(0, 1, 6), 90);
        DUE.is("POLLS", x.session(0, 1, 8), 1);
        Tapes.tell(x, 0, 1, 3, 16, 100, 1);
        DUE.is("POLLS", x.session(0, 1, 8), 0);
    }

    private static void shutOnesGoOnSending() {
        StandInLan x = Tapes.withSession(3, 50, 60, 3);
        x.change(0, 1, 80, 40);
        x.tick(10);
        x.change(0, 1, 0, 0);
        DUE.session(x, 0, 1, 0, 2, 17, 7, 40, 290, 50, 60, 0, 1, 100, 1);
        x.tick(40);
        DUE.frame(x, 0, new int[] {1, 2, 0, 1, 24, 30}, 39, 0, 3, 24, 0, 0, 0, 2, 0, 0, 0, 17,
            0, 0, 0, 100, 0, 0, 0, 40, 0, 0, 0, 0);
        DUE.is("SEND", x.session(0, 1, 4), 100);
        DUE.untimely("change(0, 1, 1, 1) in ADMIN", () -> x.change(0, 1, 1, 1));
        DUE.untimely("change(0, 1, 0, 0) in ADMIN", () -> x.change(0, 1, 0, 0));
        DUE.untimely("change(0, 1, 0, 1) in ADMIN", () -> x.change(0, 1, 0, 1));
        x.open(0, 1, 5, 5, 5);
        DUE.session(x, 0, 1, 1, 1, 0, 0, 100, 0, 5, 5, 0, 1, 0, 0);
    }

    private static void wrongCallsAreRefused() {
        StandInLan x = new StandInLan();
        x.start(0);
        x.open(0, 1, 20, 30, 3);
        for (int r : new int[] {-1, 5, Integer.MIN_VALUE, Integer.MAX_VALUE}) {
            DUE.outside("change(" + r + ", 0, 1, 1)", () -> x.change(r, 0, 1, 1));
            DUE.outside("change(0, " + r + ", 1, 1)", () -> x.change(0, r, 1, 1));
            DUE.outside("change(0, " + r + ", -1, 1)", () -> x.change(0, r, -1, 1));
        }
        DUE.untimely("change(0, 0, 1, 1): no session with itself", () -> x.change(0, 0, 1, 1));
        DUE.untimely("change(0, 2, 1, 1): none such", () -> x.change(0, 2, 1, 1));
        DUE.untimely("change(0, 2, -1, 1): none such", () -> x.change(0, 2, -1, 1));
        DUE.untimely("change(0, 2, 0, 0): none such", () -> x.change(0, 2, 0, 0));
        DUE.untimely("change(1, 0, 1, 1): OFF", () -> x.change(1, 0, 1, 1));
        for (int v : new int[] {0, -1, 1001, Integer.MIN_VALUE, Integer.MAX_VALUE}) {
            DUE.unfit("change(0, 1, " + v + ", 1)", () -> x.change(0, 1, v, 1));
            DUE.unfit("change(0, 1, 1, " + v + ")", () -> x.change(0, 1, 1, v));
        }
        DUE.session(x, 0, 1, 1, 1, 0, 0, 100, 0, 20, 30, 0, 1, 0, 0);
        x.change(0, 1, 1000, 1000);
        x.change(0, 1, 1, 1);
        DUE.session(x, 0, 1, 1, 1, 0, 0, 100, 0, 1, 1, 0, 1, 0, 0);
    }
}
