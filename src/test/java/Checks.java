/** What the tests share: counting wrong answers, feeding texts. */
final class Checks {
    static final int NONE = -1, UNKNOWN = -1000000001, OUTSIDE = -1000000002, NOT = -1000000003, FULL = -1000000004;

    private final String test;
    private int calls;
    private int wrong;

    Checks(String test) {
        this.test = test;
    }

    void due(String call, int got, int want) {
        calls++;
        if (got != want) {
            wrong++;
            if (wrong <= 40) {
                System.out.println(test + ": " + call + " answered " + got + ", due is " + want);
            }
        }
    }

    void end() {
        System.out.println(test + ": " + calls + " answers, " + wrong + " wrong");
        if (wrong != 0) {
            System.exit(1);
        }
    }

    static void feed(OwnBirthdays x, String text) {
        for (int i = 0; i < text.length(); i += 8) {
            int n = Math.min(8, text.length() - i);
            long bytes = 0;
            for (int j = 0; j < n; j++) {
                bytes = bytes << 8 | text.charAt(i + j) & 255;
            }
            x.feed(n, bytes);
        }
    }

    static int tell(OwnBirthdays x, String text) {
        feed(x, text);
        return x.land();
    }

    static OwnBirthdays landOf(String text) {
        OwnBirthdays x = new OwnBirthdays();
        int persons = tell(x, text);
        if (persons < 0) {
            throw new IllegalStateException("the test's own text has a fault: " + text + " " + persons + " at " + x.fault());
        }
        return x;
    }
}
