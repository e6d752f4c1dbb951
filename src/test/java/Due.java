/** Collects the answers that are not as due; every test ends with the exit code that tells whether there was one. */
final class Due {
    private final String test;
    private int wrong;
    private int asked;
    private String words = "";

    Due(String test) {
        this.test = test;
    }

    /** The document's words that the answers from here on belong to; a wrong answer is told with them. */
    void sentence(String quoted) {
        words = " [" + quoted + "]";
    }

    void is(String call, long got, long want) {
        asked++;
        if (got != want) {
            tellWrong(call + " answered " + got + ", due is " + want);
        }
    }

    private void tellWrong(String what) {
        wrong++;
        System.out.println(test + words + ": " + what);
    }

    void yes(String call, boolean got) {
        is(call, got ? 1 : 0, 1);
    }

    void no(String call, boolean got) {
        is(call, got ? 1 : 0, 0);
    }

    /** The very class is due, since a subclass comes from the machine and not from a throw of the program. */
    void refuses(String call, Class<? extends RuntimeException> want, Runnable body) {
        asked++;
        String got = "nothing";
        try {
            body.run();
        } catch (RuntimeException e) {
            got = e.getClass().getName();
        }
        if (!got.equals(want.getName())) {
            tellWrong(call + " throws " + got + ", due is " + want.getName());
        }
    }

    void outside(String call, Runnable body) {
        refuses(call, IndexOutOfBoundsException.class, body);
    }

    void unfit(String call, Runnable body) {
        refuses(call, IllegalArgumentException.class, body);
    }

    void untimely(String call, Runnable body) {
        refuses(call, IllegalStateException.class, body);
    }

    /** Rows of answers of one router or session, from number 0 on. */
    void router(StandInLan x, int r, int... want) {
        for (int i = 0; i < want.length; i++) {
            is("router(" + r + ", " + i + ")", x.router(r, i), want[i]);
        }
    }

    void session(StandInLan x, int r, int s, int... want) {
        for (int i = 0; i < want.length; i++) {
            is("session(" + r + ", " + s + ", " + i + ")", x.session(r, s, i), want[i]);
        }
    }

    /** Want is -1, -2 .. -6 of a frame and then its bytes; the byte behind the last one must be NONE. */
    void frame(StandInLan x, int k, int[] head, int... bytes) {
        for (int i = 0; i < head.length; i++) {
            is("frame(" + k + ", " + (-1 - i) + ")", x.frame(k, -1 - i), head[i]);
        }
        for (int i = 0; i < bytes.length; i++) {
            is("frame(" + k + ", " + i + ")", x.frame(k, i), bytes[i]);
        }
        is("frame(" + k + ", " + bytes.length + ")", x.frame(k, bytes.length), StandInLan.NONE);
    }

    /** Everything that can be asked of the two is answered alike. */
    void same(String when, StandInLan x, StandInLan y) {
        int[] got = Whole.answers(x);
        int[] want = Whole.answers(y);
        is("how much there is to ask " + when, got.length, want.length);
        for (int i = 0; i < got.length && i < want.length; i++) {
            is("answer " + i + " of all " + when, got[i], want[i]);
        }
    }

    void end() {
        System.out.println(test + ": " + asked + " answers, " + wrong + " not as due");
        if (wrong != 0) {
            System.exit(1);
        }
    }
}
