/** The examples of README.md, with the answers that are told there. */
public final class ReadmeTest {
    private static final Due DUE = new Due("ReadmeTest");

    public static void main(String[] args) {
        standingIn();
        sessions();
        tape();
        DUE.end();
    }

    private static void standingIn() {
        StandInLan lan = new StandInLan();
        lan.set(0, 0, 120);
        lan.start(0);
        lan.start(1);
        DUE.is("tick(400)", lan.tick(400), 400);
        DUE.is("router(0, 0)", lan.router(0, 0), 2);
        DUE.is("port(9)", lan.port(9), 0);
        lan.stop(0, false);
        DUE.is("flying()", lan.flying(), 1);
        DUE.is("frame(0, 2)", lan.frame(0, 2), 0);
        lan.tick(100);
        DUE.is("router(1, 0)", lan.router(1, 0), 2);
        lan.start(2);
        lan.ask(2);
        lan.tick(2);
        DUE.is("router(2, 7)", lan.router(2, 7), 167772161);
    }

    private static void sessions() {
        StandInLan lan = new StandInLan();
        lan.set(0, 8, 30);
        lan.set(0, 9, 2);
        lan.start(0);
        lan.start(1);
        lan.open(0, 1, 10, 10, 3);
        lan.open(1, 0, 10, 10, 3);
        DUE.is("router(0, 2)", lan.router(0, 2), 70);
        lan.tick(300);
        DUE.is("session(0, 1, 0)", lan.session(0, 1, 0), 3);
        DUE.is("router(0, 2)", lan.router(0, 2), 100);
        lan.stop(1, true);
        lan.tick(40);
        DUE.is("session(0, 1, 0)", lan.session(0, 1, 0), 1);
        DUE.is("session(0, 1, 3)", lan.session(0, 1, 3), 1);
        DUE.is("session(1, 0, 0)", lan.session(1, 0, 0), StandInLan.NONE);
    }

    private static void tape() {
        StandInLan lan = new StandInLan();
        lan.start(1);
        DUE.yes("type(0x310100010064D91AL, 8)", lan.type(0x310100010064D91AL, 8));
        DUE.yes("type(0x0A0000F0, 4)", lan.type(0x0A0000F0, 4));
        DUE.yes("arrive(1, 1, 9, 255, 167772160)", lan.arrive(1, 1, 9, 255, 167772160));
        DUE.is("router(1, 1)", lan.router(1, 1), 60);
    }
}
