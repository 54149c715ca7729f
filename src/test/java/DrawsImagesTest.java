/** Promises 24 to 27: draws, images. */
public final class DrawsImagesTest {
    private static final Checks C = new Checks("DrawsImagesTest");
    private static final String THREE = "year 10;person 17 50;person 30 100;person 12 5;"
        + "birthday 3 0 10;birthday 7 1 20;birthday 7 1 6;birthday 0 2 9;";

    public static void main(String[] args) {
        drifting();
        driftingWithout();
        seeds();
        images();
        C.end();
    }

    private static int next(int seed) {
        return (int) ((seed * 1103515245L + 12345L) % 2147483648L);
    }

    private static void drifting() {
        OwnBirthdays x = Checks.landOf(THREE);
        C.due("n 0", x.drift(0), Checks.OUTSIDE);
        C.due("n 1000", x.drift(1000), Checks.OUTSIDE);
        int sold = 0;
        for (int seed = 0; seed < 12; seed++) {
            sold += driftBeside(seed);
        }
        C.due("the test sells something", sold > 5 ? 1 : 0, 1);
    }

    /** The same days by calls of sell and day: 45 of them, for more calls are not promised; how many were sold. */
    private static int driftBeside(int firstSeed) {
        OwnBirthdays x = Checks.landOf(THREE);
        OwnBirthdays y = Checks.landOf(THREE);
        x.seed(firstSeed);
        int seed = firstSeed;
        int sold = 0;
        for (int day = 1; day <= 45; day++) {
            C.due("drift", x.drift(1), day);
            seed = next(seed);
            if (seed / 65536 % 4 == 0) {
                int b = (seed = next(seed)) / 65536 % 4;
                int p = (seed = next(seed)) / 65536 % 3;
                sold += y.sell(b, p, y.birthday(b, 7)) >= 0 ? 1 : 0;
            }
            y.day(1);
            for (int p = 0; p < 3; p++) {
                C.due("age on day " + day, x.person(p, 0), y.person(p, 0));
                C.due("purse on day " + day, x.person(p, 1), y.person(p, 1));
                C.due("owned on day " + day, x.person(p, 3), y.person(p, 3));
            }
        }
        C.due("the seed", x.seed(0), seed);
        return sold;
    }

    private static void driftingWithout() {
        OwnBirthdays x = new OwnBirthdays();
        C.due("OUTSIDE ahead of NOT", x.drift(0), Checks.OUTSIDE);
        C.due("no persons", x.drift(1), Checks.NOT);
        Checks.tell(x, "person 1 1;");
        x.seed(99);
        C.due("no birthdays", x.drift(999), 999);
        C.due("nothing is drawn", x.seed(0), 99);
        Checks.tell(x, "person 1 1;birthday 0 0 1;");
        x.die(0);
        C.due("nobody lives", x.drift(12), 12);
        C.due("drawn all the same", x.seed(0) != 0 ? 1 : 0, 1);
        C.due("nobody's", x.birthday(0, 1), Checks.NONE);
    }

    private static void seeds() {
        OwnBirthdays x = new OwnBirthdays();
        C.due("seed(-1)", x.seed(-1), Checks.OUTSIDE);
        C.due("seed least", x.seed(Integer.MIN_VALUE), Checks.OUTSIDE);
        C.due("seed greatest", x.seed(2147483647), 0);
        C.due("seed 0", x.seed(0), 2147483647);
        C.due("seed 5", x.seed(5), 0);
        Checks.tell(x, THREE);
        C.due("stays", x.seed(2147483647), 5);
        x.drift(1);
        int seed = next(2147483647);
        if (seed / 65536 % 4 == 0) {
            seed = next(next(seed));
        }
        C.due("from the greatest", x.seed(0), seed);
    }

    private static void images() {
        OwnBirthdays x = Checks.landOf(THREE);
        C.due("keep(-1)", x.keep(-1), Checks.UNKNOWN);
        C.due("keep(2)", x.keep(2), Checks.UNKNOWN);
        C.due("goBack(-1)", x.goBack(-1), Checks.UNKNOWN);
        C.due("goBack(2)", x.goBack(2), Checks.UNKNOWN);
        C.due("not kept", x.goBack(0), Checks.NOT);
        x.seed(3);
        x.day(2);
        x.lend(1, 0, 5, 10);
        C.due("keep", x.keep(1), 1);
        C.due("not kept still", x.goBack(0), Checks.NOT);
        x.tell(0, 0, 0);
        x.die(2);
        x.drift(20);
        x.sell(0, 1, 0);
        C.due("keep", x.keep(0), 1);
        C.due("back", x.goBack(1), 1);
        C.due("today", x.told(4), 2);
        C.due("who lives", x.told(5), 7);
        C.due("lent", x.told(6), 2);
        C.due("till", x.birthday(1, 4), 7);
        C.due("told ages stay", x.told(7), 1);
        C.due("purse", x.person(0, 1), 40);
        C.due("owner", x.birthday(0, 1), 0);
        C.due("seed", x.seed(8), 3);
        x.day(30);
        C.due("an image stays as it was", x.goBack(1), 1);
        C.due("today", x.told(4), 2);
        C.due("age", x.person(1, 0), 30);
        C.due("the other one", x.goBack(0), 1);
        C.due("today", x.told(4), 22);
        C.due("who lives", x.told(5), 3);
        C.due("keep again", x.keep(1), 1);
        x.begin();
        C.due("back", x.goBack(1), 1);
        C.due("today", x.told(4), 22);
        x.land();
        C.due("gone", x.goBack(1), Checks.NOT);
    }
}
