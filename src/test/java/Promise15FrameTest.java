/** Promise 15: frame. */
public final class Promise15FrameTest {
    private static final Due DUE = new Due("Promise15FrameTest");

    public static void main(String[] args) {
        othersAreNone();
        bytesAreWithoutASign();
        orderIsThatOfSending();
        DUE.end();
    }

    private static void othersAreNone() {
        StandInLan x = new StandInLan();
        x.set(0, 0, 255);
        x.start(0);
        for (int k : new int[] {-1, 2, 59, 60, 61, Integer.MIN_VALUE, Integer.MAX_VALUE}) {
            for (int i = -7; i < 3; i++) {
                DUE.is("frame(" + k + ", " + i + ")", x.frame(k, i), StandInLan.NONE);
            }
        }
        for (int i : new int[] {-7, -8, 12, 39, 40, 41, Integer.MIN_VALUE, Integer.MAX_VALUE}) {
            DUE.is("frame(0, " + i + ")", x.frame(0, i), StandInLan.NONE);
        }
        for (int i : new int[] {-7, 0, 1, 39, 40}) {
            DUE.is("frame(1, " + i + ")", x.frame(1, i), StandInLan.NONE);
        }
        x.tick(1);
        DUE.is("frame(0, -1) when it has arrived", x.frame(0, -1), StandInLan.NONE);
        DUE.is("frame(0, 0) when it has arrived", x.frame(0, 0), StandInLan.NONE);
    }

    private static void bytesAreWithoutASign() {
        StandInLan x = new StandInLan();
        x.set(4, 0, 255);
        x.set(4, 3, 255);
        x.set(4, 5, -1);
        x.start(4);
        DUE.frame(x, 0, new int[] {1, 1, 9, 15, 12, 15}, Tapes.advertisement(255, 255, 100, -1, 167772164));
        x.start(3);
        x.open(3, 4, 1000, 1000, 255);
        x.tick(400);
        x.tick(400);
        x.tick(200);
        int last = x.flying() - 1;
        DUE.is("kind", x.frame(last - 1, -2), 2);
        DUE.frame(x, last - 1, new int[] {1, 2, 3, 4, 24, 23}, 32, 64, 255, 24, 0, 0, 0, 53, 0, 0, 0, 0,
            0, 0, 3, 232, 0, 0, 3, 232, 0, 0, 0, 0);
    }

    private static void orderIsThatOfSending() {
        StandInLan x = new StandInLan();
        for (int r = 0; r < 5; r++) {
            x.start(r);
            x.set(r, 6, 10 - r);
        }
        for (int r = 4; r >= 0; r--) {
            x.ask(r);
        }
        x.ask(3);
        int[] from = {4, 3, 2, 1, 0, 3};
        for (int k = 0; k < from.length; k++) {
            DUE.frame(x, k, new int[] {10 - from[k], 3, from[k], 15, 0, 31 - (1 << from[k])});
        }
        x.tick(7);
        int[] left = {2, 1, 0};
        DUE.is("flying()", x.flying(), 3);
        for (int k = 0; k < left.length; k++) {
            DUE.frame(x, k, new int[] {3 - left[k], 3, left[k], 15, 0, 31 - (1 << left[k])});
        }
    }
}
