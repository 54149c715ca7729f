/** Promises 20 to 23: told ages. */
public final class ToldAgesTest {
    private static final Checks C = new Checks("ToldAgesTest");
    private static final String TWO = "year 10;person 17 50;person 30 100;birthday 3 0 10;birthday 7 1 20;birthday 7 1 6;";

    public static void main(String[] args) {
        telling();
        judging();
        forging();
        C.end();
    }

    private static void telling() {
        OwnBirthdays x = Checks.landOf(TWO);
        C.due("unknown", x.tell(2, -1, -1), Checks.UNKNOWN);
        C.due("unknown", x.tell(-1, 0, 0), Checks.UNKNOWN);
        C.due("n -1", x.tell(0, -1, 0), Checks.OUTSIDE);
        C.due("n 10000", x.tell(0, 10000, 0), Checks.OUTSIDE);
        C.due("age -1", x.tell(0, 0, -1), Checks.OUTSIDE);
        C.due("age 1000", x.tell(0, 0, 1000), Checks.OUTSIDE);
        C.due("none", x.told(7), 0);
        for (int i = 1; i <= 20; i++) {
            C.due("tell " + i, x.tell(1, 9999, 999), i);
        }
        C.due("full", x.tell(0, 0, 0), Checks.FULL);
        C.due("OUTSIDE ahead of FULL", x.tell(0, 0, 1000), Checks.OUTSIDE);
        C.due("tear", x.tear(), 20);
        C.due("tear", x.tear(), 0);
        C.due("again", x.tell(0, 0, 0), 1);
    }

    private static void judging() {
        OwnBirthdays x = Checks.landOf(TWO);
        C.due("nothing told", x.judge(), Checks.NONE);
        x.tell(0, 3, 18);
        x.tell(1, 6, 30);
        x.tell(1, 7, 32);
        x.tell(1, 9999, 999);
        C.due("all right", x.judge(), Checks.NONE);
        x.tell(0, 2, 18);
        x.tell(0, 2, 19);
        C.due("the first wrong", x.judge(), 4);
        x.day(1);
        C.due("days from now", x.judge(), 1);
        x.begin();
        x.lend(0, 1, 3, 0);
        C.due("by loans", x.judge(), 0);
        x.tear();
        x.tell(1, 3, 31);
        C.due("by loans", x.judge(), Checks.NONE);
        x.die(0);
        x.tell(0, 500, 17);
        C.due("the dead do not age", x.judge(), Checks.NONE);
    }

    private static void forging() {
        OwnBirthdays x = Checks.landOf(TWO);
        C.due("nothing told: each", x.forged(), 7);
        x.tell(0, 2, 17);
        C.due("nothing comes: each", x.forged(), 7);
        x.tell(1, 8, 31);
        C.due("one of two", x.forged(), 6);
        x.lend(1, 0, 7, 0);
        C.due("lent: all but it give 31", x.forged(), 3);
        x.tell(0, 7, 19);
        C.due("it does not", x.forged(), 0);
        x.tear();
        x.tell(0, 7, 18);
        C.due("his own or the lent one", x.forged(), 3);
        x.day(7);
        x.tear();
        x.tell(1, 9999, 999);
        C.due("999 at most without one, too", x.forged(), 7);
        x.tell(1, 0, 30);
        C.due("none mends the wrong", x.forged(), 0);
    }
}
