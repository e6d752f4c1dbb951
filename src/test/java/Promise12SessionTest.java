/** Promise 12: session, with the life of one. */
public final class Promise12SessionTest {
    private static final Due DUE = new Due("Promise12SessionTest");

    public static void main(String[] args) {
        othersAreNone();
        statesFollowWhatIsTold();
        numbersAreKeptInBounds();
        sendFollowsItsRx();
        detectEndsASession();
        pollsAreAnswered();
        finalBitsEndPollsOnly();
        upsAreCounted();
        twoOfThemComeUp();
        DUE.end();
    }

    private static void othersAreNone() {
        StandInLan x = Tapes.withSession(1, 10, 10, 3);
        for (int bad : new int[] {-1, 12, Integer.MIN_VALUE, Integer.MAX_VALUE}) {
            DUE.is("session(0, 1, " + bad + ")", x.session(0, 1, bad), StandInLan.NONE);
        }
        for (int bad : new int[] {-1, 5, Integer.MIN_VALUE, Integer.MAX_VALUE}) {
            DUE.is("session(" + bad + ", 1, 0)", x.session(bad, 1, 0), StandInLan.NONE);
            DUE.is("session(0, " + bad + ", 0)", x.session(0, bad, 0), StandInLan.NONE);
        }
        DUE.is("session(0, 0, 0)", x.session(0, 0, 0), StandInLan.NONE);
        DUE.is("session(0, 2, 0)", x.session(0, 2, 0), StandInLan.NONE);
        DUE.is("session(1, 0, 0)", x.session(1, 0, 0), StandInLan.NONE);
        x.stop(0, true);
        DUE.is("session(0, 1, 0) of one OFF", x.session(0, 1, 0), StandInLan.NONE);
    }

    private static void statesFollowWhatIsTold() {
        int[][] next = {{0, 0, 0, 0}, {1, 2, 3, 1}, {1, 2, 3, 3}, {1, 1, 3, 3}};
        int[][] why = {{7, 7, 7, 7}, {0, 0, 0, 0}, {3, 0, 0, 0}, {3, 3, 0, 0}};
        for (int state = 0; state < 4; state++) {
            for (int told = 0; told < 4; told++) {
                StandInLan x = Tapes.withSession(state, 10, 10, 3);
                int ups = x.session(0, 1, 11);
                x.tick(1);
                DUE.yes("state " + state + " is told " + told, Tapes.tell(x, 0, 1, told, 0, 7, 1));
                DUE.session(x, 0, 1, next[state][told], told, 17, why[state][told]);
                DUE.is("DETECT in " + state + " told " + told, x.session(0, 1, 5), 30);
                DUE.is("UP in " + state + " told " + told, x.session(0, 1, 11),
                    ups + (state != 3 && next[state][told] == 3 ? 1 : 0));
            }
        }
    }

    private static void numbersAreKeptInBounds() {
        StandInLan x = Tapes.withSession(1, 10, 10, 3);
        Tapes.bytes(x, Tapes.packet(3, 0, 255, -1, 2, 100001, Integer.MIN_VALUE));
        DUE.yes("a packet with high numbers", x.arrive(0, 2, 1, 255, 0));
        DUE.session(x, 0, 1, 1, 3, 100000, 0, 100, 10000000, 10, 10, 0, 100000, 100000, 0);
        x.tick(100);
        DUE.is("SEND is ITS RX", x.session(0, 1, 4), 100000);
        DUE.is("REMOTE number is sent", x.frame(0, 9) * 65536 + x.frame(0, 10) * 256 + x.frame(0, 11), 100000);
        Tapes.bytes(x, Tapes.packet(3, 0, 100, 100000, 2, 99999, 100000));
        x.arrive(0, 2, 1, 255, 0);
        DUE.session(x, 0, 1, 1, 3, 100000, 0, 100000, 9999900, 10, 10, 0, 100000, 99999, 0);
        Tapes.bytes(x, Tapes.packet(3, 0, 100, 5, 2, 100000, 100000));
        x.arrive(0, 2, 1, 255, 0);
        DUE.is("DETECT", x.session(0, 1, 5), 10000000);
        Tapes.bytes(x, Tapes.packet(3, 0, 1, 5, 2, 0, 0));
        x.arrive(0, 2, 1, 255, 0);
        DUE.session(x, 0, 1, 1, 3, 5, 0, 0, 10, 10, 10, 0, 0, 0, 0);
    }

    private static void sendFollowsItsRx() {
        StandInLan x = Tapes.withSession(1, 50, 10, 3);
        x.tick(30);
        Tapes.tell(x, 0, 1, 3, 0, 100, 500);
        DUE.is("SEND is not put off", x.session(0, 1, 4), 70);
        x.tick(70);
        DUE.is("SEND is ITS RX", x.session(0, 1, 4), 500);
        x.tick(1);
        Tapes.tell(x, 0, 1, 3, 0, 100, 499);
        DUE.is("SEND is not put off, and not brought nearer", x.session(0, 1, 4), 499);
        Tapes.tell(x, 0, 1, 3, 0, 100, 498);
        DUE.is("SEND comes nearer", x.session(0, 1, 4), 498);
        Tapes.tell(x, 0, 1, 3, 0, 100, 0);
        DUE.is("SEND is off", x.session(0, 1, 4), 0);
        x.tick(400);
        // The packet of tick 100, and as an ACTIVE router two frames in tick 360 and one in tick 460.
        DUE.is("the session sends nothing more", x.router(0, 6), 4);
        Tapes.tell(x, 0, 1, 3, 0, 100, 2);
        DUE.is("SEND is on again", x.session(0, 1, 4), 100);
        Tapes.tell(x, 0, 1, 2, 0, 100, 2);
        DUE.is("SEND in UP", x.session(0, 1, 4), 50);
        Tapes.tell(x, 0, 1, 3, 0, 100, 1000);
        x.tick(50);
        DUE.is("SEND in UP is ITS RX", x.session(0, 1, 4), 1000);
        Tapes.tell(x, 0, 1, 1, 0, 100, 60);
        DUE.is("SEND when it fell", x.session(0, 1, 4), 100);
    }

    private static void detectEndsASession() {
        for (int state = 0; state < 4; state++) {
            StandInLan x = Tapes.withSession(state, 1000, 20, 3);
            // In DOWN being told UP changes no state, so that DETECT runs in every one of them.
            Tapes.tell(x, 0, 1, state == 2 ? 1 : 3, 0, 10, 1);
            DUE.is("DETECT", x.session(0, 1, 5), 60);
            x.tick(59);
            DUE.is("STATE before", x.session(0, 1, 0), state);
            DUE.is("REMOTE number before", x.session(0, 1, 2), 17);
            x.tick(1);
            DUE.is("STATE", x.session(0, 1, 0), state == 0 ? 0 : 1);
            DUE.is("REMOTE state stays", x.session(0, 1, 1), state == 2 ? 1 : 3);
            DUE.is("REMOTE number", x.session(0, 1, 2), 0);
            DUE.is("DIAGNOSIS", x.session(0, 1, 3), state == 0 ? 7 : state == 1 ? 0 : 1);
            DUE.is("DETECT is off", x.session(0, 1, 5), 0);
            DUE.is("SEND goes on", x.session(0, 1, 4), 940);
        }
    }

    private static void pollsAreAnswered() {
        int[] next = {0, 2, 2, 1};
        int[] why = {7, 0, 0, 3};
        for (int state = 0; state < 4; state++) {
            StandInLan x = Tapes.withSession(state, 150, 10, 3);
            int before = x.flying();
            if (state == 3) {
                x.change(0, 1, 160, 10);
            }
            Tapes.tell(x, 0, 1, 1, 32, 100, 1);
            DUE.is("flying()", x.flying(), before + 1);
            DUE.frame(x, before, new int[] {1, 2, 0, 1, 24, 30}, 32 + why[state], 64 * next[state] + 16, 3, 24,
                0, 0, 0, 2, 0, 0, 0, 17, 0, 0, 0, state == 3 ? 160 : 150, 0, 0, 0, 10, 0, 0, 0, 0);
            DUE.is("POLLS", x.session(0, 1, 8), state == 3 ? 1 : 0);
        }
    }

    private static void finalBitsEndPollsOnly() {
        StandInLan x = Tapes.withSession(3, 50, 60, 3);
        Tapes.tell(x, 0, 1, 3, 16, 100, 1);
        DUE.session(x, 0, 1, 3, 3, 17, 0, 50, 300, 50, 60, 0, 1, 100, 1);
        x.change(0, 1, 200, 20);
        Tapes.tell(x, 0, 1, 3, 48, 100, 1);
        DUE.session(x, 0, 1, 3, 3, 17, 0, 50, 300, 200, 20, 0, 1, 100, 1);
        DUE.is("with both bits a poll is answered", x.frame(0, 1), 208);
    }

    private static void upsAreCounted() {
        StandInLan x = Tapes.withSession(3, 10, 10, 3);
        for (int i = 2; i < 5; i++) {
            Tapes.tell(x, 0, 1, 0, 0, 100, 1);
            DUE.is("STATE", x.session(0, 1, 0), 1);
            Tapes.tell(x, 0, 1, 2, 0, 100, 1);
            DUE.is("STATE", x.session(0, 1, 0), 3);
            DUE.is("UP", x.session(0, 1, 11), i);
        }
        x.open(0, 1, 10, 10, 3);
        DUE.is("UP since it was opened", x.session(0, 1, 11), 0);
    }

    private static void twoOfThemComeUp() {
        StandInLan x = new StandInLan();
        x.start(0);
        x.start(1);
        x.start(2);
        x.open(0, 1, 20, 30, 3);
        x.open(1, 0, 10, 15, 2);
        x.open(2, 0, 10, 15, 2);
        x.tick(101);
        DUE.session(x, 0, 1, 2, 1, 17, 0, 99, 199, 20, 30, 0, 15, 100, 0);
        DUE.session(x, 1, 0, 2, 1, 2, 0, 99, 299, 10, 15, 0, 30, 100, 0);
        DUE.session(x, 2, 0, 1, 1, 0, 0, 99, 0, 10, 15, 0, 1, 0, 0);
        x.tick(100);
        DUE.session(x, 0, 1, 3, 2, 17, 0, 19, 199, 20, 30, 0, 15, 100, 1);
        DUE.session(x, 1, 0, 3, 2, 2, 0, 29, 299, 10, 15, 0, 30, 100, 1);
        x.stop(1, true);
        x.tick(198);
        DUE.session(x, 0, 1, 3, 2, 17, 0, 1, 1);
        x.tick(1);
        DUE.session(x, 0, 1, 1, 2, 0, 1, 100, 0);
    }
}
