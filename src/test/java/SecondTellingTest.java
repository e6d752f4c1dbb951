import java.util.ArrayList;
import java.util.Arrays;
import java.util.List;
import java.util.Random;

/** Random runs of some 500 calls on the class and on PlainLan, the second telling of the document, answer alike. */
public final class SecondTellingTest {
    private static final Due DUE = new Due("SecondTellingTest");
    private static final int RUNS = 240;
    private static final int[] ODD = {-1, 0, 5, 9, 15, 16, 256, 1001, 4096, Integer.MIN_VALUE, Integer.MAX_VALUE};
    private static final int[] HOPS = {-1, 0, 254, 256};
    private static final int[] RATES = {1, 2, 5, 20, 99, 100, 101, 150, 400, 999, 1000};
    private static final int[] TOLD = {0, 1, 2, 30, 100, 250, 40000, 99999, 100000, 100001, -1, Integer.MIN_VALUE};
    private static final int[][] UNFIT = {
        {0, 256}, {0, 4096}, {-1, 2}, {0, 256}, {-1}, {-1}, {0, 51}, {-1, 4}, {-1, 255}, {-1, 32}};
    private static final int[][] SETTINGS = {
        {1, 2, 99, 100, 101, 200, 254, 255}, {1, 2, 3, 10, 100, 256, 4095}, {0, 1}, {1, 1, 1, 2, 255},
        {0, 1, 167772160, 167772163, -1, Integer.MIN_VALUE, Integer.MAX_VALUE}, {167772400, 167772400, 0, -1},
        {1, 1, 2, 3, 50}, {0, 0, 0, 1, 2, 3}, {0, 1, 50, 99, 100, 254}, {0, 1, 2, 6, 21, 31}};

    private final Random random;
    private final StandInLan lan = new StandInLan();
    private final PlainLan plain = new PlainLan();
    private final List<String> calls = new ArrayList<>();
    private final int hurry;
    private boolean alike = true;

    private SecondTellingTest(int seed) {
        random = new Random(seed);
        hurry = 1 + random.nextInt(4);
    }

    public static void main(String[] args) {
        for (int seed = 0; seed < RUNS; seed++) {
            new SecondTellingTest(seed).run();
        }
        DUE.end();
    }

    private void run() {
        for (int r = 0; r < 5; r++) {
            if (random.nextInt(4) > 0) {
                start(r);
            }
        }
        if (seldom(4)) {
            slowTheFrames();
        }
        while (calls.size() < 490 && alike) {
            anyCall();
        }
    }

    /** With long delays the frames on the way come to be 60, and more are lost. */
    private void slowTheFrames() {
        for (int r = 0; r < 5; r++) {
            set(r, 6, 30 + random.nextInt(21));
            set(r, 1, 1 + random.nextInt(4));
        }
    }

    /** What either answered; of an exception the very class counts, as for Due. */
    private interface Call {
        Object answer();
    }

    private void both(String call, Call ofLan, String ofPlain) {
        calls.add(call);
        String got;
        try {
            got = "" + ofLan.answer();
        } catch (RuntimeException e) {
            got = e.getClass().getName().replace("java.lang.", "");
        }
        if (!got.equals(ofPlain)) {
            tellUnlike(call + " answered '" + got + "', due is '" + ofPlain + "'");
        }
        int[] gotAll = Whole.answers(lan);
        int[] wantAll = Whole.answers(plain);
        int place = Arrays.mismatch(gotAll, wantAll);
        if (place >= 0) {
            tellUnlike("then " + Whole.call(place) + " answered " + gotAll[place] + ", due is " + wantAll[place]);
        }
        DUE.yes("alike", alike);
    }

    private void tellUnlike(String what) {
        if (alike) {
            System.out.println("SecondTellingTest: behind " + calls + " " + what);
        }
        alike = false;
    }

    private int one(int[] row) {
        return row[random.nextInt(row.length)];
    }

    private boolean seldom(int often) {
        return random.nextInt(often) == 0;
    }

    private int number(int below) {
        return seldom(60) ? one(ODD) : random.nextInt(below);
    }

    private void anyCall() {
        int r = number(5);
        int s = number(5);
        switch (random.nextInt(23)) {
            case 0, 1 -> set(r, number(10));
            case 2, 3 -> start(r);
            case 4 -> stop(r, random.nextBoolean());
            case 5, 6, 7 -> open(r, s);
            case 8, 9 -> change(r, s);
            case 10 -> ask(r);
            case 11, 12, 13, 14 -> tick();
            case 15 -> type(random.nextLong(), number(9));
            case 16, 17 -> advertisement(random.nextInt(5));
            case 18, 19, 20 -> packet(random.nextInt(5), random.nextInt(5));
            case 21 -> lookAside(r, s);
            default -> arrive(r, 1 + number(2), number(15), seldom(3) ? one(HOPS) : 255, one(TOLD));
        }
    }

    private void set(int r, int what) {
        set(r, what, settingFor(what));
    }

    private int settingFor(int what) {
        boolean isSetting = what >= 0 && what <= 9;
        return !isSetting ? one(ODD) : one(seldom(8) ? UNFIT[what] : SETTINGS[what]);
    }

    private void set(int r, int what, int v) {
        both("set(" + r + ", " + what + ", " + v + ")", () -> {
            lan.set(r, what, v);
            return "";
        }, plain.set(r, what, v));
    }

    private void start(int r) {
        both("start(" + r + ")", () -> {
            lan.start(r);
            return "";
        }, plain.start(r));
    }

    private void stop(int r, boolean crashes) {
        both("stop(" + r + ", " + crashes + ")", () -> {
            lan.stop(r, crashes);
            return "";
        }, plain.stop(r, crashes));
    }

    /** Questions that the row of all answers does not hold. */
    private void lookAside(int r, int s) {
        int what = one(ODD);
        both("router(" + r + ", " + what + ")", () -> lan.router(r, what), "" + plain.router(r, what));
        both("session(" + r + ", " + s + ", " + what + ")",
            () -> lan.session(r, s, what), "" + plain.session(r, s, what));
        both("port(" + what + ")", () -> lan.port(what), "" + plain.port(what));
        int k = seldom(2) ? plain.flying() - random.nextInt(2) : one(ODD);
        int i = seldom(2) ? one(ODD) : -7 + random.nextInt(9);
        both("frame(" + k + ", " + i + ")", () -> lan.frame(k, i), "" + plain.frame(k, i));
    }

    private int rate() {
        return seldom(20) ? one(ODD) : one(RATES) / (seldom(2) ? hurry : 1);
    }

    private void open(int r, int s) {
        int tx = rate();
        int rx = rate();
        int multiplier = seldom(15) ? one(ODD) : seldom(4) ? 255 : 1 + random.nextInt(3);
        both("open(" + r + ", " + s + ", " + tx + ", " + rx + ", " + multiplier + ")", () -> {
            lan.open(r, s, tx, rx, multiplier);
            return "";
        }, plain.open(r, s, tx, rx, multiplier));
    }

    private void change(int r, int s) {
        boolean shuts = seldom(6);
        int tx = shuts ? 0 : rate();
        int rx = shuts ? 0 : rate();
        both("change(" + r + ", " + s + ", " + tx + ", " + rx + ")", () -> {
            lan.change(r, s, tx, rx);
            return "";
        }, plain.change(r, s, tx, rx));
    }

    private void ask(int r) {
        both("ask(" + r + ")", () -> {
            lan.ask(r);
            return "";
        }, plain.ask(r));
    }

    private void tick() {
        int n = seldom(20) ? one(new int[] {-1, 0, 400, 401}) : random.nextInt(seldom(4) ? 130 : 6);
        both("tick(" + n + ")", () -> lan.tick(n), plain.tick(n));
    }

    private void type(long word, int n) {
        both("type(" + word + ", " + n + ")", () -> lan.type(word, n), plain.type(word, n));
    }

    private void arrive(int r, int kind, int station, int hops, int address) {
        both("arrive(" + r + ", " + kind + ", " + station + ", " + hops + ", " + address + ")",
            () -> lan.arrive(r, kind, station, hops, address), plain.arrive(r, kind, station, hops, address));
    }

    /** A packet, now and then with one bit wrong, or too short or too long; the tape may hold bytes before it. */
    private void typeAll(List<Integer> row) {
        List<Integer> all = new ArrayList<>(row);
        if (seldom(6)) {
            int at = random.nextInt(all.size());
            all.set(at, all.get(at) ^ 1 << random.nextInt(8));
        }
        if (seldom(12)) {
            all.remove(all.size() - 1);
        }
        int more = seldom(8) ? random.nextInt(18) : 0;
        for (int i = 0; i < more; i++) {
            all.add(random.nextInt(256));
        }
        for (int from = 0; from < all.size(); from += 8) {
            List<Integer> part = all.subList(from, Math.min(all.size(), from + 8));
            long word = random.nextLong();
            for (int b : part) {
                word = word << 8 | b;
            }
            type(word, part.size());
        }
    }

    /** The tape is emptied by a frame that nobody minds, if some router runs. */
    private void emptyTape() {
        for (int r = 0; r < 5; r++) {
            if (plain.router(r, 0) != 0) {
                arrive(r, 1, 0, 0, 0);
                return;
            }
        }
    }

    private void advertisement(int r) {
        emptyTape();
        int address = seldom(3) ? (int) plain.setting(r, 4) : one(SETTINGS[4]);
        int near = plain.router(r, 2) + random.nextInt(3) - 1;
        int priority = seldom(5) ? 0 : seldom(3) ? random.nextInt(256) : Math.floorMod(near, 256);
        int interval = one(new int[] {0, 1, 2, 7, 100, 4095, 4096, 4097, 65535});
        typeAll(PlainLan.advertisement(plain.setting(r, 3), priority, interval, plain.setting(r, 5),
            Integer.toUnsignedLong(address)));
        arrive(r, 1, seldom(3) ? random.nextInt(15) : 9, seldom(12) ? 254 : 255, address);
    }

    private void packet(int r, int s) {
        emptyTape();
        int sender = seldom(6) ? one(TOLD) : 16 * s + r + 1;
        int meant = seldom(5) ? 0 : seldom(9) ? random.nextInt(90) : 16 * r + s + 1;
        int bits = 16 * (seldom(2) ? 0 : random.nextInt(4)) + (seldom(8) ? random.nextInt(16) : 0);
        int[] row = Tapes.packet(random.nextInt(4), bits, seldom(5) ? 255 : 1 + random.nextInt(3), sender, meant,
            one(TOLD), seldom(3) ? one(TOLD) : 1 + random.nextInt(120));
        row[0] = seldom(4) ? 31 + random.nextInt(34) : 32;
        row[2] = seldom(20) ? 0 : row[2];
        row[3] = seldom(10) ? 23 + random.nextInt(19) : 24;
        typeAll(Arrays.stream(row).boxed().toList());
        arrive(r, 2, seldom(6) ? random.nextInt(15) : s, seldom(15) ? 254 : 255, one(TOLD));
    }
}
