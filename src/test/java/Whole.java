/** All that can be asked of an object without changing it, in one row; the clock and the tape can't be asked so. */
final class Whole {
    private Whole() {
    }

    static int[] answers(StandInLan x) {
        int[] row = new int[5 * 8 + 25 * 12 + 16 + 1 + 60 * 46];
        int at = 0;
        for (int r = 0; r < 5; r++) {
            for (int what = 0; what < 8; what++) {
                row[at++] = x.router(r, what);
            }
            for (int s = 0; s < 5; s++) {
                for (int what = 0; what < 12; what++) {
                    row[at++] = x.session(r, s, what);
                }
            }
        }
        for (int station = 0; station < 16; station++) {
            row[at++] = x.port(station);
        }
        row[at++] = x.flying();
        for (int k = 0; k < x.flying(); k++) {
            for (int i = -6; i < 40; i++) {
                row[at++] = x.frame(k, i);
            }
        }
        return row;
    }
}
