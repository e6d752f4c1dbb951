/** Promise 9: type. */
public final class Promise09TypeTest {
    private static final Due DUE = new Due("Promise09TypeTest");

    public static void main(String[] args) {
        lengthsHold();
        lowestBytesGoHighestFirst();
        falseChangesNothing();
        DUE.end();
    }

    private static void lengthsHold() {
        StandInLan x = new StandInLan();
        for (int n : new int[] {0, -1, 9, 16, Integer.MIN_VALUE, Integer.MAX_VALUE}) {
            DUE.no("type(1, " + n + ")", x.type(1, n));
        }
        for (int n = 1; n <= 8; n++) {
            DUE.yes("type(-1, " + n + ")", x.type(-1L, n));
        }
        DUE.no("type(0, 5): 41 bytes", x.type(0, 5));
        DUE.yes("type(0, 3): 39 bytes", x.type(0, 3));
        DUE.no("type(0, 2): 41 bytes", x.type(0, 2));
        DUE.yes("type(0, 1): 40 bytes", x.type(0, 1));
        for (int n = 0; n <= 9; n++) {
            DUE.no("type(0, " + n + ") on a full tape", x.type(0, n));
        }
    }

    private static void lowestBytesGoHighestFirst() {
        int[] row = Tapes.advertisement(1, 150, 77, Tapes.VIRTUAL, 3);
        for (int n = 1; n <= 8; n++) {
            StandInLan x = new StandInLan();
            x.start(0);
            for (int at = 0; at < 12; at += n) {
                int size = Math.min(n, 12 - at);
                long word = -1;
                for (int i = 0; i < size; i++) {
                    word = word << 8 | row[at + i];
                }
                DUE.yes("type(" + word + ", " + size + ")", x.type(word, size));
            }
            DUE.yes("what was typed by " + n + " is taken", x.arrive(0, 1, 9, 255, 3));
            DUE.is("known", x.router(0, 3), 77);
        }
    }

    private static void falseChangesNothing() {
        StandInLan x = new StandInLan();
        x.start(0);
        x.open(0, 1, 10, 10, 3);
        int[] row = Tapes.packet(1, 0, 3, 17, 0, 100, 1);
        row[3] = 40;
        Tapes.bytes(x, row);
        x.type(0, 8);
        x.type(0, 7);
        DUE.no("type(0, 0)", x.type(0, 0));
        DUE.no("type(0, 9)", x.type(0, 9));
        DUE.no("type(0, 2)", x.type(0, 2));
        DUE.yes("type(0, 1)", x.type(0, 1));
        DUE.yes("40 bytes came", x.arrive(0, 2, 1, 255, 0));
        row[3] = 40;
        Tapes.bytes(x, row);
        x.type(0, 8);
        x.type(0, 7);
        x.type(0, 2);
        DUE.no("39 bytes came", x.arrive(0, 2, 1, 255, 0));
    }
}
