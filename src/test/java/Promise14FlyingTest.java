/** Promise 14: flying, with what is lost. */
public final class Promise14FlyingTest {
    private static final Due DUE = new Due("Promise14FlyingTest");

    public static void main(String[] args) {
        sixtyAreTheMost();
        anAnswerFindsRoom();
        arrivedOnesAreGone();
        othersFramesAreNotMinded();
        activeOnesDoNotMindThemEither();
        DUE.end();
    }

    private static void sixtyAreTheMost() {
        StandInLan x = new StandInLan();
        x.start(0);
        x.start(1);
        x.set(0, 6, 2);
        for (int i = 0; i < 60; i++) {
            DUE.is("flying()", x.flying(), i);
            x.ask(0);
        }
        DUE.is("flying()", x.flying(), 60);
        x.ask(0);
        x.ask(1);
        DUE.is("flying() with two more", x.flying(), 60);
        DUE.is("sent by 0", x.router(0, 6), 61);
        DUE.is("sent by 1", x.router(1, 6), 1);
        DUE.is("the last one is of 0", x.frame(59, -3), 0);
        x.tick(1);
        DUE.is("flying()", x.flying(), 60);
        x.tick(1);
        DUE.is("flying()", x.flying(), 0);
        x.ask(1);
        DUE.is("flying()", x.flying(), 1);
    }

    private static void anAnswerFindsRoom() {
        StandInLan x = new StandInLan();
        x.set(1, 0, 255);
        x.start(0);
        x.start(1);
        x.tick(1);
        x.set(1, 6, 4);
        for (int i = 0; i < 60; i++) {
            x.ask(0);
        }
        x.tick(1);
        DUE.is("flying()", x.flying(), 60);
        DUE.is("sent by 1", x.router(1, 6), 62);
        DUE.frame(x, 0, new int[] {4, 4, 9, 0, 0, 1});
        DUE.frame(x, 59, new int[] {4, 4, 9, 0, 0, 1});
        x.set(2, 0, 255);
        x.start(2);
        DUE.is("flying()", x.flying(), 60);
        DUE.is("sent by 2", x.router(2, 6), 2);
        x.tick(4);
        DUE.is("flying()", x.flying(), 0);
        DUE.is("noted", x.router(0, 7), 167772161);
    }

    private static void arrivedOnesAreGone() {
        StandInLan x = new StandInLan();
        x.start(0);
        x.set(0, 6, 3);
        x.ask(0);
        x.tick(1);
        x.ask(0);
        DUE.is("flying()", x.flying(), 2);
        x.tick(1);
        DUE.is("flying()", x.flying(), 2);
        x.tick(1);
        DUE.is("flying()", x.flying(), 1);
        x.stop(0, true);
        DUE.is("flying() when the sender is OFF", x.flying(), 1);
        x.tick(1);
        DUE.is("flying()", x.flying(), 0);
    }

    private static void othersFramesAreNotMinded() {
        StandInLan x = new StandInLan();
        x.start(0);
        x.start(1);
        x.start(2);
        x.open(0, 1, 1, 5, 1);
        x.open(1, 0, 1000, 5, 1);
        x.open(2, 0, 1000, 5, 1);
        x.tick(101);
        DUE.is("1 has heard of 0", x.session(1, 0, 2), 2);
        DUE.is("2 has not, though the frame came to all ports", x.session(2, 0, 2), 0);
        x.set(1, 7, 2);
        x.tick(100);
        DUE.is("LOSS 2: INIT in 0 was not heard", x.session(1, 0, 1), 1);
        x.set(1, 7, 1);
        x.tick(100);
        DUE.is("LOSS 1: what comes is heard", x.session(1, 0, 5), 99);
    }

    private static void activeOnesDoNotMindThemEither() {
        StandInLan x = new StandInLan();
        x.set(2, 0, 255);
        x.start(2);
        x.start(0);
        x.open(0, 1, 1, 5, 1);
        x.open(2, 0, 1000, 5, 1);
        x.tick(100);
        DUE.is("to whom", x.frame(0, -4), 1);
        DUE.is("to which ports", x.frame(0, -6), 30);
        x.tick(1);
        DUE.is("an ACTIVE one has not heard what was for 1", x.session(2, 0, 2), 0);
    }
}
