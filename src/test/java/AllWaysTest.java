import java.util.Random;

/**
 * What is the least, the greatest or the first of many ways, beside all of them: each way is done for real by days
 * and deals, on small lands by draws of a fixed seed. No model is used, only the calls that do something.
 */
public final class AllWaysTest {
    private static final Checks C = new Checks("AllWaysTest");
    private static final int NONE = Checks.NONE;
    private static final int LANDS = 400;
    private static final Random RANDOM = new Random(27);

    /** A land on some day, with a loan or without one: made anew for each way. */
    private static final class Start {
        final Lands land;
        final int days;
        final int lent;
        final int to;
        final int till;

        Start(int mostPersons, int mostBirthdays) {
            Lands one = new Lands(RANDOM);
            while (one.age.length > mostPersons || one.day.length > mostBirthdays || isPoor(one) && RANDOM.nextInt(10) > 0) {
                one = new Lands(RANDOM);
            }
            land = one;
            days = 1 + RANDOM.nextInt(40);
            boolean lends = land.day.length > 0 && RANDOM.nextBoolean();
            lent = lends ? RANDOM.nextInt(land.day.length) : NONE;
            to = RANDOM.nextInt(land.age.length);
            till = 1 + RANDOM.nextInt(2 * land.year);
        }

        /** Where little can be done. */
        private static boolean isPoor(Lands one) {
            return one.age.length < 2 || one.day.length < 2;
        }

        OwnBirthdays withoutLoan() {
            OwnBirthdays x = land.made();
            x.day(days);
            return x;
        }

        OwnBirthdays made() {
            OwnBirthdays x = withoutLoan();
            if (lent != NONE) {
                x.lend(lent, to, till, 0);
            }
            return x;
        }
    }

    public static void main(String[] args) {
        int found = 0;
        for (int i = 0; i < LANDS; i++) {
            found += coinIsTheBestOfAllSets(new Start(6, 5));
        }
        enough("coin", found);
        for (int i = 0; i < LANDS; i++) {
            lifeIsTheBestOfAllRows(new Start(6, 8));
        }
        found = 0;
        for (int i = 0; i < 3 * LANDS; i++) {
            found += givenIsTheBestOfAllWays(new Start(3, 4));
        }
        enough("given", found);
        found = 0;
        for (int i = 0; i < LANDS; i++) {
            found += restsStepByStep(new Start(6, 8));
        }
        enough("rests", found);
        C.end();
    }

    /** A way that costs nothing is no trial of the least. */
    private static void enough(String what, int found) {
        C.due(what + ": " + found + " that cost or change something, is that enough", found >= LANDS / 4 ? 1 : 0, 1);
    }

    /** What a SET costs that makes p older by v in n days; NONE if it cannot be borrowed or does not do so. */
    private static int costOf(Start start, int set, int p, int v, int n) {
        OwnBirthdays x = start.made();
        int age = x.person(p, 0);
        int sum = 0;
        for (int b = 0; b < start.land.day.length; b++) {
            if ((set >> b & 1) == 1) {
                sum += x.birthday(b, 7);
                if (x.birthday(b, 6) > n || x.lend(b, p, n, 0) < 0) {
                    return NONE;
                }
            }
        }
        x.day(n);
        return x.person(p, 0) - age == v ? sum : NONE;
    }

    private static int coinIsTheBestOfAllSets(Start start) {
        int p = RANDOM.nextInt(start.land.age.length);
        int v = RANDOM.nextInt(5);
        int n = 1 + RANDOM.nextInt(2 * start.land.year);
        int least = NONE;
        int leastSet = NONE;
        for (int set = 0; set < 1 << start.land.day.length; set++) {
            int cost = costOf(start, set, p, v, n);
            if (cost != NONE && (least == NONE || cost < least)) {
                least = cost;
                leastSet = set;
            }
        }
        OwnBirthdays x = start.made();
        C.due("coin: the least sum", x.coin(p, v, n, 0), least);
        C.due("coin: the least set", x.coin(p, v, n, 1), leastSet);
        return least > 0 ? 1 : 0;
    }

    /** Rows come from "never" on, the last year first: the first of the greatest is the first row. */
    private static void lifeIsTheBestOfAllRows(Start start) {
        OwnBirthdays x = start.made();
        int p = RANDOM.nextInt(start.land.age.length);
        int m = 1 + RANDOM.nextInt(9);
        int[] good = new int[m + 1];
        for (int older = 0; older <= m; older++) {
            good[older] = x.good(x.person(p, 0) + older);
        }
        int greatest = NONE;
        int first = 0;
        for (int row = 0; row < 1 << m; row++) {
            int older = 0;
            int sum = 0;
            for (int year = 0; year < m; year++) {
                older += row >> (m - 1 - year) & 1;
                sum += good[older];
            }
            if (sum > greatest) {
                greatest = sum;
                first = row;
            }
        }
        C.due("life: the greatest sum", x.life(p, m, NONE), greatest);
        for (int year = 0; year < m; year++) {
            C.due("life: the first row", x.life(p, m, year), first >> (m - 1 - year) & 1);
        }
    }

    /** What a way costs by which k are of age v in n days; NONE if they are not. */
    private static int costOf(Start start, int[] to, int k, int v, int n) {
        OwnBirthdays x = start.withoutLoan();
        OwnBirthdays now = start.made();
        int sum = 0;
        for (int b = 0; b < to.length; b++) {
            sum += to[b] == now.birthday(b, 5) ? 0 : now.birthday(b, 2);
            if (to[b] != x.birthday(b, 1)) {
                x.sell(b, to[b], 0);
            }
        }
        x.day(n);
        return Integer.bitCount(x.votes(v)) >= k ? sum : NONE;
    }

    /** Ways come by the first birthday's person first: the first of the least is the first way. */
    private static int givenIsTheBestOfAllWays(Start start) {
        int persons = start.land.age.length;
        int[] to = new int[start.land.day.length];
        int ways = (int) Math.pow(persons, to.length);
        OwnBirthdays x = start.made();
        int v = x.person(RANDOM.nextInt(persons), 0) + 1 + RANDOM.nextInt(2);
        int k = Math.min(6, Integer.bitCount(x.votes(v)) + RANDOM.nextInt(3));
        int n = 1 + RANDOM.nextInt(2 * start.land.year);
        int least = NONE;
        int[] first = null;
        for (int way = 0; way < ways; way++) {
            int left = way;
            for (int b = to.length - 1; b >= 0; b--) {
                to[b] = left % persons;
                left /= persons;
            }
            int cost = costOf(start, to, k, v, n);
            if (cost != NONE && (least == NONE || cost < least)) {
                least = cost;
                first = to.clone();
            }
        }
        C.due("given: the least sum", x.given(k, v, n, NONE), least);
        for (int b = 0; b < to.length; b++) {
            C.due("given: the first way", x.given(k, v, n, b), first == null ? NONE : first[b]);
        }
        return least > 0 ? 1 : 0;
    }

    private static int worth(OwnBirthdays x, int p, int others) {
        int age = x.person(p, 0) + others;
        return x.good(age + 1) - x.good(age);
    }

    /** The first change of hands {birthday, to whom}; null if nobody gains by any. */
    static int[] firstChange(OwnBirthdays x) {
        int persons = x.told(1);
        int[] next = new int[persons];
        int[] last = new int[persons];
        for (int p = 0; p < persons; p++) {
            int owned = Integer.bitCount(x.person(p, 3));
            next[p] = worth(x, p, owned);
            last[p] = owned == 0 ? 0 : worth(x, p, owned - 1);
        }
        for (int b = 0; b < x.told(2); b++) {
            int owner = x.birthday(b, 1);
            int to = owner;
            for (int p = 0; p < persons; p++) {
                if (p != owner && next[p] > (to == owner ? last[owner] : next[to])) {
                    to = p;
                }
            }
            if (to != owner) {
                return new int[] {b, to};
            }
        }
        return null;
    }

    /** One change done for real, by a sale for nothing: one change fewer is left, and all ends in the same hands. */
    private static int restsStepByStep(Start start) {
        int birthdays = start.land.day.length;
        OwnBirthdays lent = start.made();
        OwnBirthdays x = start.withoutLoan();
        int times = lent.rests(NONE);
        int[] whose = new int[birthdays];
        for (int b = 0; b < birthdays; b++) {
            whose[b] = lent.rests(b);
        }
        int[] change = firstChange(x);
        for (int step = 0; change != null && step < 4; step++) {
            C.due("rests: changes left", x.rests(NONE), times - step);
            C.due("rests: the change can be made", x.sell(change[0], change[1], 0) >= 0 ? 1 : 0, 1);
            for (int b = 0; b < birthdays; b++) {
                C.due("rests: whose each is then", x.rests(b), whose[b]);
            }
            change = firstChange(x);
        }
        C.due("rests: none left", x.rests(NONE) == 0 ? 1 : 0, change == null ? 1 : 0);
        return times > 0 ? 1 : 0;
    }
}
