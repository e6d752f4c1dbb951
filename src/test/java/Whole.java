/** All that can be asked of an object without changing it, in one row; the clock and the tape can't be asked so. */
final class Whole {
    /** The calls that change nothing. */
    interface Asked {
        int router(int r, int what);

        int session(int r, int s, int what);

        int port(int station);

        int flying();

        int frame(int k, int i);
    }

    private Whole() {
    }

    static int[] answers(StandInLan x) {
        return answers(new Asked() {
            @Override
            public int router(int r, int what) {
                return x.router(r, what);
            }

            @Override
            public int session(int r, int s, int what) {
                return x.session(r, s, what);
            }

            @Override
            public int port(int station) {
                return x.port(station);
            }

            @Override
            public int flying() {
                return x.flying();
            }

            @Override
            public int frame(int k, int i) {
                return x.frame(k, i);
            }
        });
    }

    static int[] answers(Asked x) {
        int[] row = new int[5 * 8 + 25 * 12 + 16 + 1 + 60 * 46];
        int at = 0;
        for (int r = 0; r < 5; r++) {
            for (int what = 0; what < 8; what++) {
                row[at++] = x.router(r, what);
            }
            for (int s = 0; s < 5; s++) {
                for (int what = 0; what < 12; what++) {
                    row[at++] = x.session(r, s, what);
                }
            }
        }
        for (int station = 0; station < 16; station++) {
            row[at++] = x.port(station);
        }
        row[at++] = x.flying();
        for (int k = 0; k < x.flying(); k++) {
            for (int i = -6; i < 40; i++) {
                row[at++] = x.frame(k, i);
            }
        }
        return row;
    }

    /** The call that gave the answer at a place of the row. */
    static String call(int place) {
        int routers = 5 * (8 + 5 * 12);
        if (place < routers) {
            int r = place / 68;
            int rest = place % 68;
            return rest < 8 ? "router(" + r + ", " + rest + ")"
                : "session(" + r + ", " + (rest - 8) / 12 + ", " + (rest - 8) % 12 + ")";
        }
        int rest = place - routers;
        if (rest < 17) {
            return rest < 16 ? "port(" + rest + ")" : "flying()";
        }
        return "frame(" + (rest - 17) / 46 + ", " + ((rest - 17) % 46 - 6) + ")";
    }
}
