import java.util.Random;

/**
 * Calls with any numbers in any state: none throws, and what is refused changes nothing. There are more calls than the
 * 512 of the document on one object: that no call throws is said without a number of calls.
 */
public final class WildCallsTest {
    private static final Checks C = new Checks("WildCallsTest");
    private static final int[] EDGES = {Integer.MIN_VALUE, Integer.MIN_VALUE + 1, -1000000001, -10000, -2, -1, 0, 1, 2, 5, 6, 7, 8,
        9, 20, 59, 60, 61, 120, 121, 500, 998, 999, 1000, 9998, 9999, 10000, 99999, 100000, Integer.MAX_VALUE - 1, Integer.MAX_VALUE};
    private static final String[] TEXTS = {"", " ", "year 2;", "person 5 5;",
        "year 2;person 0 999;person 120 0;birthday 0 0 99;birthday 1 1 1;good 1 99;good 120 99;",
        "year 60;person 0 0;person 0 0;person 0 0;person 0 0;person 0 0;person 0 0;birthday 59 5 1;birthday 0 4 1;birthday 0 3 1;"
            + "birthday 0 2 1;birthday 0 1 1;birthday 0 0 1;birthday 30 0 1;birthday 29 0 1;good 0 1;good 1 2;good 2 3;good 3 9;",
        "birthday 0 0 1;", "person 1 1"};
    private static final Random RANDOM = new Random(5);

    public static void main(String[] args) {
        for (int run = 0; run < 150; run++) {
            OwnBirthdays x = new OwnBirthdays();
            if (run % 10 != 0) {
                Checks.tell(x, TEXTS[run % TEXTS.length]);
            }
            for (int call = 0; call < 512; call++) {
                oneCall(x, run);
            }
        }
        C.end();
    }

    private static int any() {
        int kind = RANDOM.nextInt(10);
        return kind < 6 ? RANDOM.nextInt(10) - 1 : kind < 9 ? EDGES[RANDOM.nextInt(EDGES.length)] : RANDOM.nextInt();
    }

    private static void oneCall(OwnBirthdays x, int run) {
        int which = RANDOM.nextInt(26);
        int[] a = {any(), any(), any(), any()};
        long bytes = RANDOM.nextLong();
        // no wild call ends the land: that would leave little to call
        if (which == 1 && RANDOM.nextInt(20) != 0) {
            return;
        }
        String before = look(x);
        int answer = answer(x, which, a, bytes);
        boolean refused = answer <= Checks.UNKNOWN && answer >= Checks.FULL;
        int least = which == 1 ? -14 : Checks.NONE;
        C.due("run " + run + ": call " + which + " answered " + answer + ", is that counted or refused",
            refused || answer >= least ? 1 : 0, 1);
        if (answer <= Checks.UNKNOWN) {
            boolean same = before.equals(look(x));
            C.due("run " + run + ": call " + which + " of " + a[0] + ", " + a[1] + ", " + a[2] + ", " + a[3]
                + " was refused, is all as it was", same ? 1 : 0, 1);
        }
    }

    private static int answer(OwnBirthdays x, int which, int[] a, long bytes) {
        switch (which) {
            case 0: return x.feed(a[0], bytes);
            case 1: return x.land();
            case 2: return x.fault();
            case 3: return x.told(a[0]);
            case 4: return x.person(a[0], a[1]);
            case 5: return x.birthday(a[0], a[1]);
            case 6: return x.good(a[0]);
            case 7: return x.day(a[0]);
            case 8: return x.sell(a[0], a[1], a[2]);
            case 9: return x.lend(a[0], a[1], a[2], a[3]);
            case 10: return RANDOM.nextInt(10) == 0 ? x.die(a[0]) : x.die(-1);
            case 11: return RANDOM.nextInt(10) == 0 ? x.begin() : 0;
            case 12: return x.foretold(a[0], a[1]);
            case 13: return x.coin(a[0], a[1], a[2], a[3]);
            case 14: return x.life(a[0], a[1], a[2]);
            case 15: return x.votes(a[0]);
            case 16: return x.given(a[0], a[1], a[2], a[3]);
            case 17: return x.rests(a[0]);
            case 18: return x.tell(a[0], a[1], a[2]);
            case 19: return RANDOM.nextInt(10) == 0 ? x.tear() : 0;
            case 20: return x.judge();
            case 21: return x.forged();
            case 22: return x.drift(a[0]);
            case 23: return x.seed(a[0]);
            case 24: return x.keep(a[0]);
            default: return x.goBack(a[0]);
        }
    }

    private static String look(OwnBirthdays x) {
        StringBuilder s = new StringBuilder();
        for (int what = 0; what < 8; what++) {
            s.append(x.told(what)).append(' ');
        }
        for (int p = 0; p < x.told(1); p++) {
            for (int what = 0; what < 5; what++) {
                s.append(x.person(p, what)).append(' ');
            }
        }
        for (int b = 0; b < x.told(2); b++) {
            for (int what = 0; what < 8; what++) {
                s.append(x.birthday(b, what)).append(' ');
            }
        }
        int seed = x.seed(0);
        x.seed(seed);
        return s.append(seed).append(' ').append(x.fault()).append(' ').append(x.judge()).toString();
    }
}
