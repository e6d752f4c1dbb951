/** Types packets on the tape, made from the document's words and not from the class. */
final class Tapes {
    static final int VIRTUAL = 167772400;

    private Tapes() {
    }

    static void bytes(StandInLan x, int... row) {
        for (int b : row) {
            if (!x.type(b, 1)) {
                throw new IllegalStateException("the tape is full");
            }
        }
    }

    static int[] advertisement(int group, int priority, int interval, int virtual, int address) {
        int[] row = {49, group, priority, 1, interval >>> 8, interval & 255, 0, 0,
            virtual >>> 24, virtual >>> 16 & 255, virtual >>> 8 & 255, virtual & 255};
        for (int check = 0; check < 65536; check++) {
            row[6] = check >>> 8;
            row[7] = check & 255;
            if (sum(row, address) == 65535) {
                return row;
            }
        }
        throw new IllegalStateException("there is no such CHECK");
    }

    static long sum(int[] row, int address) {
        long sum = Integer.toUnsignedLong(address) / 65536 + Integer.toUnsignedLong(address) % 65536;
        sum += 57344 + 18 + 112 + 12;
        for (int i = 0; i < row.length; i += 2) {
            sum += row[i] * 256 + row[i + 1];
        }
        while (sum > 65535) {
            sum = sum / 65536 + sum % 65536;
        }
        return sum;
    }

    /** An advertisement in group 1 for the first virtual address, from station 9. */
    static boolean advertise(StandInLan x, int r, int priority, int interval, int address) {
        bytes(x, advertisement(1, priority, interval, VIRTUAL, address));
        return x.arrive(r, 1, 9, 255, address);
    }

    static int[] packet(int state, int bits, int multiplier, int sender, int meant, int tx, int rx) {
        int[] row = new int[24];
        row[0] = 32;
        row[1] = 64 * state + bits;
        row[2] = multiplier;
        row[3] = 24;
        four(row, 4, sender);
        four(row, 8, meant);
        four(row, 12, tx);
        four(row, 16, rx);
        return row;
    }

    static void four(int[] row, int at, int value) {
        for (int i = 0; i < 4; i++) {
            row[at + i] = value >>> (24 - 8 * i) & 255;
        }
    }

    /** A packet to router r for its session with s, as s would send it. */
    static boolean tell(StandInLan x, int r, int s, int state, int bits, int tx, int rx) {
        bytes(x, packet(state, bits, 3, 16 * s + r + 1, 16 * r + s + 1, tx, rx));
        return x.arrive(r, 2, s, 255, 0);
    }

    /** Router 0 is started, opens a session with router 1 and is brought to a state by what 1 tells. */
    static StandInLan withSession(int state, int tx, int rx, int multiplier) {
        StandInLan x = new StandInLan();
        x.start(0);
        x.open(0, 1, tx, rx, multiplier);
        if (state == 0) {
            x.change(0, 1, 0, 0);
        }
        if (state >= 2) {
            tell(x, 0, 1, 1, 0, 100, 1);
        }
        if (state == 3) {
            tell(x, 0, 1, 2, 0, 100, 1);
        }
        return x;
    }
}
