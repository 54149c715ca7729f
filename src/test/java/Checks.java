/** What the tests share: counting wrong answers, feeding texts, trying what is refused. */
final class Checks {
    /** Makes a new object in the same state each time. */
    interface Maker {
        OwnBirthdays make();
    }

    interface Call {
        int on(OwnBirthdays x);
    }

    interface NumberCall {
        int on(OwnBirthdays x, int number);
    }

    interface Feeder {
        int feed(int n, long bytes);
    }

    static final int NONE = -1, UNKNOWN = -1000000001, OUTSIDE = -1000000002, NOT = -1000000003, FULL = -1000000004;

    private final String test;
    private int calls;
    private int wrong;

    Checks(String test) {
        this.test = test;
    }

    void due(String call, int got, int want) {
        calls++;
        if (got != want) {
            wrong++;
            if (wrong <= 40) {
                System.out.println(test + ": " + call + " answered " + got + ", due is " + want);
            }
        }
    }

    /** The call answers a refusal, and behind it all is as in an object on which it was not made. */
    void refused(String call, Maker maker, Call tried, int want) {
        OwnBirthdays x = maker.make();
        due(call, tried.on(x), want);
        dueSame(call + " was refused: all that is seen", Look.atAll(x), Look.atAll(maker.make()));
    }

    /** Refused one beyond each bound, two beyond it and at the farthest numbers that there are. */
    void refusedBeyond(String call, Maker maker, NumberCall tried, int least, int most, int want) {
        int[] below = {least - 1, least - 2, Integer.MIN_VALUE};
        int[] above = {most + 1, most + 2, Integer.MAX_VALUE};
        for (int i = 0; i < 3; i++) {
            int low = below[i];
            int high = above[i];
            refused(call + " of " + low, maker, x -> tried.on(x, low), want);
            refused(call + " of " + high, maker, x -> tried.on(x, high), want);
        }
    }

    /** A call that answers and changes nothing. */
    void looks(String call, Maker maker, Call tried, int want) {
        refused(call, maker, tried, want);
    }

    void dueSame(String what, String got, String want) {
        calls++;
        if (!got.equals(want)) {
            wrong++;
            System.out.println(test + ": " + what + " is\n  " + got + "\n  due is\n  " + want);
        }
    }

    void end() {
        System.out.println(test + ": " + calls + " answers, " + wrong + " wrong");
        if (wrong != 0) {
            System.exit(1);
        }
    }

    static void feed(OwnBirthdays x, String text) {
        feed(x::feed, text);
    }

    static void feed(Feeder to, String text) {
        for (int i = 0; i < text.length(); i += 8) {
            int n = Math.min(8, text.length() - i);
            long bytes = 0;
            for (int j = 0; j < n; j++) {
                bytes = bytes << 8 | text.charAt(i + j) & 255;
            }
            to.feed(n, bytes);
        }
    }

    static int tell(OwnBirthdays x, String text) {
        feed(x, text);
        return x.land();
    }

    static OwnBirthdays landOf(String text) {
        OwnBirthdays x = new OwnBirthdays();
        int persons = tell(x, text);
        if (persons < 0) {
            throw new IllegalStateException("the test's own text has a fault: " + text + " " + persons + " at " + x.fault());
        }
        return x;
    }
}
