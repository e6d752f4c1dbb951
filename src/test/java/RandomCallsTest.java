import java.util.Random;

/** No call throws but what the document names, what must always hold holds, and the same calls answer the same. */
public final class RandomCallsTest {
    private static final Due DUE = new Due("RandomCallsTest");
    private static final int[] ODD = {-1, 0, 5, 9, 15, 60, 255, 256, 1000, 1001, Integer.MIN_VALUE, Integer.MAX_VALUE};

    public static void main(String[] args) {
        for (int seed = 0; seed < 300; seed++) {
            DUE.is("the same calls with seed " + seed, life(seed), life(seed));
        }
        theBusiestNetworkStands();
        DUE.end();
    }

    private static long life(int seed) {
        Random random = new Random(seed);
        StandInLan x = new StandInLan();
        long all = 0;
        for (int call = 0; call < 400; call++) {
            all = all * 31 + oneCall(x, random);
            bounds(x);
        }
        return all;
    }

    private static int number(Random random, int below) {
        return random.nextInt(25) == 0 ? ODD[random.nextInt(ODD.length)] : random.nextInt(below);
    }

    private static long oneCall(StandInLan x, Random random) {
        int which = random.nextInt(14);
        int r = number(random, 5);
        int s = number(random, 5);
        int v = number(random, 300);
        int w = number(random, 50);
        try {
            switch (which) {
                case 0: x.set(r, number(random, 10), w); return 1;
                case 1: x.start(r); return 1;
                case 2: x.stop(r, random.nextBoolean()); return 1;
                case 3: x.open(r, s, v, w, number(random, 5)); return 1;
                case 4: x.change(r, s, v, w); return 1;
                case 5: x.ask(r); return 1;
                case 6: return x.tick(v);
                case 7: return x.type(random.nextLong(), number(random, 9)) ? 1 : 0;
                case 8: return packet(x, random, r, s) ? 1 : 0;
                case 9: return x.router(r, number(random, 8));
                case 10: return x.session(r, s, number(random, 12));
                case 11: return x.port(number(random, 16));
                case 12: return x.frame(number(random, 60), number(random, 24) - 6);
                default: return x.arrive(r, 1 + random.nextInt(2), s, 255, v) ? 1 : 0;
            }
        } catch (RuntimeException e) {
            DUE.yes(e + " in call " + which, isNamed(which, e.getClass()));
            return e.getClass().getName().length();
        }
    }

    private static boolean packet(StandInLan x, Random random, int r, int s) {
        if (r < 0 || r > 4 || s < 0 || s > 4) {
            return false;
        }
        for (int b : Tapes.packet(random.nextInt(4), 16 * random.nextInt(4), 1 + random.nextInt(3), 16 * s + r + 1,
                random.nextInt(3) == 0 ? 0 : 16 * r + s + 1, random.nextInt(200), random.nextInt(200))) {
            x.type(b, 1);
        }
        return x.arrive(r, 2, s, 255, 0);
    }

    private static boolean isNamed(int which, Class<?> e) {
        boolean outside = e == IndexOutOfBoundsException.class;
        boolean unfit = e == IllegalArgumentException.class;
        boolean untimely = e == IllegalStateException.class;
        switch (which) {
            case 0: return outside || unfit;
            case 1: case 2: case 5: return outside || untimely;
            case 3: case 4: case 8: case 13: return outside || unfit || untimely;
            case 6: return unfit;
            default: return false;
        }
    }

    private static void bounds(StandInLan x) {
        int flying = x.flying();
        DUE.yes("flying() is 0 to 60", flying >= 0 && flying <= 60);
        for (int k = 0; k < flying; k++) {
            DUE.yes("frame(" + k + ", -1) is 1 to 50", x.frame(k, -1) >= 1 && x.frame(k, -1) <= 50);
            int from = x.frame(k, -3);
            int ports = x.frame(k, -6);
            DUE.yes("frame(" + k + ", -6) are other ports", ports > 0 && ports < 31
                && (from == 9 || (ports >> from & 1) == 0));
        }
        for (int r = 0; r < 5; r++) {
            boolean isOff = x.router(r, 0) == 0;
            DUE.yes("the timer is on unless OFF", isOff == (x.router(r, 1) == 0) && x.router(r, 1) >= 0);
            DUE.yes("WEIGHED is 1 to 255 unless OFF", isOff ? x.router(r, 2) == 0
                : x.router(r, 2) >= 1 && x.router(r, 2) <= 255);
            for (int s = 0; s < 5; s++) {
                if (x.session(r, s, 0) != StandInLan.NONE) {
                    DUE.yes("SEND is on unless ITS RX is 0", (x.session(r, s, 9) == 0) == (x.session(r, s, 4) == 0));
                    DUE.no("an OFF one has a session", isOff);
                }
            }
        }
    }

    private static void theBusiestNetworkStands() {
        StandInLan x = new StandInLan();
        for (int r = 0; r < 5; r++) {
            x.set(r, 0, 255);
            x.set(r, 1, 1);
            x.set(r, 6, 1 + 10 * r);
            x.start(r);
            for (int s = 0; s < 5; s++) {
                if (s != r) {
                    x.open(r, s, 1, 1, 255);
                }
            }
        }
        for (int i = 1; i <= 450; i++) {
            DUE.is("tick(400)", x.tick(400), 400 * i);
            DUE.yes("flying() is at most 60", x.flying() <= 60);
        }
    }
}
