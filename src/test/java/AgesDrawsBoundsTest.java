/** The document's section 3, its second part: TOLD AGES, FORGED, years BY DRAWS, IMAGES at their bounds. */
public final class AgesDrawsBoundsTest {
    private static final Checks C = new Checks("AgesDrawsBoundsTest");
    private static final int NONE = Checks.NONE;
    private static final int NOT = Checks.NOT;

    public static void main(String[] args) {
        atMost20ToldAges();
        wrongIsTheFirstThatIsOtherwise();
        toldAgesAreDaysFromNow();
        toldAgesOfTheDeadAndTheOldest();
        forgedMakesAllRight();
        forgedWithoutToldAges();
        forgedAloneAgedNobody();
        theSeedIs0AtFirst();
        drawsAreLeftOverBy2ToThe31();
        aDrawOf4ThenOfBirthdaysThenOfPersons();
        onOneOrMoreNothingIsSold();
        soldForItsSeasonIfThePurseHasIt();
        notSoldIfItMayNotBe();
        thenTheDayGoesBy();
        withoutBirthdaysNothingIsDrawn();
        manyDaysAreOneByOne();
        imagesKeepAllThatTheyShould();
        imagesDoNotKeepTheRest();
        imagesAreTwo();
        imagesStayAndGo();
        C.end();
    }

    /** "TOLD AGES: .. 20 at most" */
    private static void atMost20ToldAges() {
        OwnBirthdays x = Checks.landOf("person 5 0;");
        for (int i = 1; i <= 20; i++) {
            C.due("tell", x.tell(0, 0, i == 20 ? 6 : 5), i);
            C.due("how many", x.told(7), i);
        }
        C.due("a 21st", x.tell(0, 0, 7), Checks.FULL);
        C.due("20 still", x.told(7), 20);
        C.due("the last is wrong", x.judge(), 19);
        C.due("torn", x.tear(), 20);
        C.due("none", x.told(7), 0);
        C.due("none to tear", x.tear(), 0);
        C.due("none is wrong", x.judge(), NONE);
        C.due("one again", x.tell(0, 0, 7), 1);
        C.due("the first is wrong", x.judge(), 0);
        C.due("one to tear", x.tear(), 1);
    }

    /** "WRONG: the first that is otherwise by FORETOLD; NONE." */
    private static void wrongIsTheFirstThatIsOtherwise() {
        OwnBirthdays x = Checks.landOf("year 10;person 5 0;birthday 3 0 1;");
        C.due("none told", x.judge(), NONE);
        int[] days = {0, 2, 3, 12, 13};
        int[] age = {5, 5, 6, 6, 7};
        for (int i = 0; i < days.length; i++) {
            x.tell(0, days[i], age[i]);
            C.due("right", x.judge(), NONE);
        }
        x.tell(0, 3, 7);
        C.due("one more", x.judge(), 5);
        x.tell(0, 3, 5);
        C.due("the first still", x.judge(), 5);
        x.tear();
        x.tell(0, 3, 5);
        C.due("one less", x.judge(), 0);
    }

    /** "(PERSON, n days from now, AGE)": from the day on which it is judged. */
    private static void toldAgesAreDaysFromNow() {
        OwnBirthdays x = Checks.landOf("year 10;person 5 0;birthday 3 0 1;");
        x.tell(0, 3, 6);
        x.tell(0, 0, 5);
        C.due("day 0", x.judge(), NONE);
        x.day(2);
        C.due("day 2", x.judge(), NONE);
        x.day(1);
        C.due("day 3", x.judge(), 1);
        x.day(7);
        C.due("day 10", x.judge(), 0);
        C.due("begin", x.begin(), 10);
        C.due("day 0 again", x.judge(), NONE);
    }

    private static void toldAgesOfTheDeadAndTheOldest() {
        OwnBirthdays x = Checks.landOf("year 2;person 120 0;person 5 0;birthday 1 0 1;birthday 1 1 1;");
        x.tell(0, 9999, 999);
        C.due("999 at most", x.judge(), NONE);
        x.tell(1, 9999, 999);
        C.due("999 at most", x.judge(), NONE);
        x.tell(0, 1756, 998);
        x.tell(0, 1757, 999);
        C.due("998, 999", x.judge(), NONE);
        x.die(1);
        C.due("the dead does not age", x.judge(), 1);
        x.tear();
        x.tell(1, 9999, 5);
        C.due("the dead does not age", x.judge(), NONE);
    }

    /** "FORGED: BIRTHDAYS (a SET) each of which, if that one alone aged nobody, makes all TOLD AGES right." */
    private static void forgedMakesAllRight() {
        OwnBirthdays x = Checks.landOf("year 10;person 5 0;person 5 0;birthday 3 0 1;birthday 4 0 1;birthday 4 1 1;");
        x.tell(0, 4, 6);
        C.due("one of its two", x.forged(), 3);
        x.tell(0, 3, 6);
        C.due("not the first", x.forged(), 2);
        x.tell(1, 4, 6);
        C.due("the other's is right", x.forged(), 2);
        x.tell(1, 4, 5);
        C.due("two that do not fit", x.forged(), 0);
        x.tear();
        x.tell(0, 4, 5);
        C.due("two would be forged, not one alone", x.forged(), 0);
        x.tear();
        x.tell(0, 4, 7);
        C.due("nothing is wrong: those that change nothing", x.forged(), 4);
        x.tear();
        x.tell(0, 4, 8);
        C.due("too old by none", x.forged(), 0);
        OwnBirthdays y = Checks.landOf("year 2;person 5 0;" + "birthday 1 0 1;".repeat(8));
        y.tell(0, 1, 12);
        C.due("all eight fit", y.forged(), 255);
        y.tell(0, 0, 5);
        C.due("all eight fit", y.forged(), 255);
        y.tell(0, 0, 6);
        C.due("now is now", y.forged(), 0);
    }

    private static void forgedWithoutToldAges() {
        C.due("no birthdays", new OwnBirthdays().forged(), 0);
        C.due("eight", States.crowded().forged(), 255);
        C.due("one", Checks.landOf("person 5 0;birthday 1 0 1;").forged(), 1);
    }

    /** A forged one that is lent ages neither its user nor its owner. */
    private static void forgedAloneAgedNobody() {
        OwnBirthdays x = Checks.landOf("year 10;person 5 0;person 50 0;birthday 3 0 1;");
        x.lend(0, 1, 5, 0);
        x.tell(1, 3, 50);
        C.due("the user", x.forged(), 1);
        x.tell(0, 13, 5);
        C.due("the owner, too", x.forged(), 1);
        C.due("wrong", x.judge(), 0);
        x.tear();
        x.tell(0, 13, 6);
        C.due("right as it is: not forged", x.forged(), 0);
        // without one of them the age of 999 is reached all the same
        OwnBirthdays y = Checks.landOf("year 2;person 120 0;birthday 1 0 1;birthday 1 0 1;birthday 1 0 1;");
        y.tell(0, 9999, 999);
        C.due("999 at most", y.forged(), 7);
        y.tell(0, 1, 122);
        C.due("each", y.forged(), 7);
    }

    private static int next(int seed) {
        return (int) ((seed * 1103515245L + 12345L) % 2147483648L);
    }

    private static int draw(int seed, int n) {
        return seed / 65536 % n;
    }

    /** The least seed by which on the next day birthday b of so many is drawn and person p of so many. */
    private static int seedFor(int birthdays, int b, int persons, int p) {
        for (int seed = 0; ; seed++) {
            int first = next(seed);
            int second = next(first);
            if (draw(first, 4) == 0 && draw(second, birthdays) == b && draw(next(second), persons) == p) {
                return seed;
            }
        }
    }

    /** "THE SEED (0 at first ..)" */
    private static void theSeedIs0AtFirst() {
        OwnBirthdays x = new OwnBirthdays();
        C.due("0 at first", x.seed(0), 0);
        // 0 becomes 12345; 12345 / 65536 is 0: a birthday and a person are drawn
        Checks.tell(x, "year 10;person 5 100;person 5 100;birthday 1 0 1;");
        C.due("a day", x.drift(1), 1);
        int seed = next(next(12345));
        C.due("three draws", x.seed(0), seed);
        C.due("sold", x.birthday(0, 1), draw(seed, 2));
    }

    /** "left over by 2 to the 31" */
    private static void drawsAreLeftOverBy2ToThe31() {
        int[] seeds = {0, 1, 2, 65535, 65536, 1073741823, 1073741824, 2147483646, 2147483647};
        for (int seed : seeds) {
            OwnBirthdays x = Checks.landOf("person 5 0;birthday 1 0 1;");
            x.seed(seed);
            x.drift(1);
            int due = next(seed);
            if (draw(due, 4) == 0) {
                due = next(next(due));
            }
            C.due("behind " + seed, x.seed(0), due);
        }
        // (2^31 - 1) * 1103515245 + 12345 = 2^31 * 1103515244 + 2^31 - 1103515245 + 12345
        C.due("the test's own draw", next(2147483647), 1043980748);
    }

    /** "a DRAW of 4: on 0 a DRAW of BIRTHDAYS, a DRAW of PERSONS" */
    private static void aDrawOf4ThenOfBirthdaysThenOfPersons() {
        for (int b = 0; b < 8; b++) {
            for (int p = 0; p < 6; p++) {
                OwnBirthdays x = States.crowded();
                int seed = seedFor(8, b, 6, p);
                x.seed(seed);
                int season = x.birthday(b, 7);
                C.due("a day", x.drift(1), 1);
                C.due("three draws", x.seed(0), next(next(next(seed))));
                for (int other = 0; other < 8; other++) {
                    C.due("owner of " + other + " when " + b + " goes to " + p, x.birthday(other, 1), other == b ? p : 5);
                }
                C.due("paid", x.person(p, 1), p == 5 ? 999 : 999 - season);
                C.due("got", x.person(5, 1), p == 5 ? 999 : 999 + season);
            }
        }
    }

    private static void onOneOrMoreNothingIsSold() {
        for (int kind = 1; kind < 4; kind++) {
            int seed = 0;
            while (draw(next(seed), 4) != kind) {
                seed++;
            }
            OwnBirthdays x = States.crowded();
            x.seed(seed);
            C.due("a day", x.drift(1), 1);
            C.due("one draw", x.seed(0), next(seed));
            C.due("nothing is sold", x.person(5, 3), 255);
            C.due("nothing is paid", x.person(5, 1), 999);
            C.due("the day went by", x.person(5, 0), 16);
        }
    }

    /** "SOLD to that one for its SEASON, if .. the PURSE has it" */
    private static void soldForItsSeasonIfThePurseHasIt() {
        // birthday 5 of a year of 10 and a price of 11: 11 + 11 * 5 / 10 = 16 on day 0
        int[] purse = {0, 15, 16, 17, 999};
        for (int has : purse) {
            OwnBirthdays x = Checks.landOf("year 10;person 5 7;person 6 " + has + ";birthday 5 0 11;");
            int seed = seedFor(1, 0, 2, 1);
            x.seed(seed);
            C.due("a day", x.drift(1), 1);
            boolean sold = has >= 16;
            C.due("owner, purse " + has, x.birthday(0, 1), sold ? 1 : 0);
            C.due("left of " + has, x.person(1, 1), sold ? has - 16 : has);
            C.due("paid out of " + has, x.person(0, 1), sold ? 23 : 7);
            C.due("drawn all the same", x.seed(0), next(next(next(seed))));
        }
        // the SEASON is that of the day ahead of the one that goes by
        OwnBirthdays late = Checks.landOf("year 10;person 5 7;person 6 999;birthday 5 0 11;");
        late.day(4);
        late.seed(seedFor(1, 0, 2, 1));
        late.drift(1);
        C.due("11 + 11 * 9 / 10", late.person(1, 1), 999 - 20);
    }

    /** "if it may be": not its own, not LENT, not to the dead, not nobody's. */
    private static void notSoldIfItMayNotBe() {
        String text = "year 10;person 5 100;person 6 100;person 7 100;birthday 5 0 11;birthday 6 0 11;";
        OwnBirthdays own = Checks.landOf(text);
        own.seed(seedFor(2, 0, 3, 0));
        own.drift(1);
        C.due("its own: nothing is paid", own.person(0, 1), 100);
        C.due("its own", own.birthday(0, 1), 0);
        OwnBirthdays lent = Checks.landOf(text);
        lent.lend(0, 1, 9, 0);
        lent.seed(seedFor(2, 0, 3, 2));
        lent.drift(1);
        C.due("lent: not sold", lent.birthday(0, 1), 0);
        C.due("lent: stays so", lent.birthday(0, 3), 1);
        lent.seed(seedFor(2, 0, 3, 1));
        lent.drift(1);
        C.due("lent: not to its user either", lent.birthday(0, 1), 0);
        C.due("lent: nothing is paid", lent.person(1, 1), 100);
        OwnBirthdays dead = Checks.landOf(text);
        dead.die(2);
        dead.seed(seedFor(2, 1, 3, 2));
        dead.drift(1);
        C.due("dead: not sold", dead.birthday(1, 1), 0);
        dead.seed(seedFor(2, 1, 3, 1));
        dead.drift(1);
        C.due("the dead are drawn, too: three persons", dead.birthday(1, 1), 1);
        dead.die(0);
        dead.die(1);
        int seed = seedFor(2, 1, 3, 1);
        dead.seed(seed);
        C.due("nobody lives: not refused", dead.drift(1), 3);
        C.due("nobody's: not sold", dead.birthday(1, 1), NONE);
        C.due("nobody's: drawn all the same", dead.seed(0), next(next(next(seed))));
    }

    /** "then the DAY goes by": who bought it on the day ahead ages by it; LOANS end, too. */
    private static void thenTheDayGoesBy() {
        OwnBirthdays x = Checks.landOf("year 10;person 5 100;person 6 100;birthday 1 0 11;birthday 1 0 11;");
        x.lend(1, 1, 1, 0);
        x.seed(seedFor(2, 0, 2, 1));
        C.due("day 1", x.drift(1), 1);
        C.due("the buyer ages, by the loan, too", x.person(1, 0), 8);
        C.due("the seller does not", x.person(0, 0), 5);
        C.due("the loan is over", x.told(6), 0);
    }

    /** "(without BIRTHDAYS nothing is drawn)" */
    private static void withoutBirthdaysNothingIsDrawn() {
        OwnBirthdays x = Checks.landOf("person 5 100;person 6 100;");
        C.due("a day", x.drift(1), 1);
        C.due("the seed", x.seed(77), 0);
        C.due("999 days", x.drift(999), 1000);
        C.due("the seed", x.seed(0), 77);
        C.due("nobody ages", x.person(0, 0), 5);
    }

    /** Many days in one call are like as many calls of a day. */
    private static void manyDaysAreOneByOne() {
        int[] days = {1, 2, 3, 40, 150};
        for (int n : days) {
            OwnBirthdays x = States.lively();
            OwnBirthdays y = States.lively();
            C.due("drift(" + n + ")", x.drift(n), 4 + n);
            for (int i = 0; i < n; i++) {
                y.drift(1);
            }
            C.dueSame("drift(" + n + ")", Look.atAll(x), Look.atAll(y));
        }
        C.due("the most", States.lively().drift(999), 1003);
    }

    /** "IMAGES 0, 1 keep PERSONS, BIRTHDAYS, LOANS, TODAY, THE SEED." */
    private static void imagesKeepAllThatTheyShould() {
        for (int image = 0; image < 2; image++) {
            OwnBirthdays x = States.lively();
            int i = image;
            C.due("keep", x.keep(image), 1);
            x.lend(1, 1, 5, 7);
            x.sell(3, 0, 9);
            x.day(20);
            x.die(0);
            x.drift(30);
            x.seed(99);
            C.due("goBack", x.goBack(image), 1);
            OwnBirthdays y = States.lively();
            y.keep(i);
            C.dueSame("all behind goBack(" + image + ")", Look.atAll(x), Look.atAll(y));
        }
        // those that died and what was nobody's
        OwnBirthdays z = States.allDead();
        z.keep(1);
        z.begin();
        z.goBack(1);
        C.due("nobody lives", z.told(5), 0);
        C.due("nobody's", z.birthday(0, 1), NONE);
        C.due("ages", z.person(0, 0), 18);
        z.begin();
        C.due("all live", z.told(5), 15);
    }

    /** TOLD AGES, THE TEXT and its FAULT are not of an image. */
    private static void imagesDoNotKeepTheRest() {
        OwnBirthdays x = States.lively();
        x.keep(1);
        x.tear();
        x.tell(0, 1, 1);
        x.feed(1, 0x20);
        x.goBack(1);
        C.due("told ages", x.told(7), 1);
        C.due("bytes", x.told(3), 9);
        C.due("fault", x.fault(), 11);
    }

    private static void imagesAreTwo() {
        OwnBirthdays x = Checks.landOf("year 2;person 5 0;birthday 1 0 1;");
        C.due("0 was not kept", x.goBack(0), NOT);
        C.due("1 was not kept", x.goBack(1), NOT);
        x.day(1);
        C.due("keep 1", x.keep(1), 1);
        C.due("0 was not kept", x.goBack(0), NOT);
        x.day(1);
        C.due("keep 0", x.keep(0), 1);
        x.day(1);
        C.due("back to 1", x.goBack(1), 1);
        C.due("day 1", x.told(4), 1);
        C.due("back to 0", x.goBack(0), 1);
        C.due("day 2", x.told(4), 2);
        C.due("back to 1", x.goBack(1), 1);
        C.due("day 1", x.told(4), 1);
        x.day(5);
        C.due("keep 1 again", x.keep(1), 1);
        x.goBack(0);
        C.due("day 2", x.told(4), 2);
        x.goBack(1);
        C.due("day 6", x.told(4), 6);
        x.day(1);
        x.goBack(1);
        C.due("day 6 still", x.told(4), 6);
        C.due("keep(2)", x.keep(2), Checks.UNKNOWN);
        C.due("keep(-1)", x.keep(-1), Checks.UNKNOWN);
        C.due("goBack(2)", x.goBack(2), Checks.UNKNOWN);
        C.due("goBack(-1)", x.goBack(-1), Checks.UNKNOWN);
    }

    /** By land() "IMAGES are gone", with a FAULT they are not; by begin() they stay. */
    private static void imagesStayAndGo() {
        OwnBirthdays x = Checks.landOf("year 2;person 5 0;birthday 1 0 1;");
        x.day(3);
        x.keep(0);
        x.day(3);
        x.keep(1);
        x.begin();
        C.due("they stay", x.goBack(1), 1);
        C.due("day 6", x.told(4), 6);
        Checks.tell(x, "cake;");
        C.due("they stay", x.goBack(0), 1);
        C.due("day 3", x.told(4), 3);
        Checks.tell(x, "year 2;person 5 0;birthday 1 0 1;");
        C.due("gone", x.goBack(0), NOT);
        C.due("gone", x.goBack(1), NOT);
        C.due("kept again", x.keep(1), 1);
        C.due("the other one is gone still", x.goBack(0), NOT);
        x.land();
        C.due("gone by an empty text, too", x.goBack(1), NOT);
        OwnBirthdays y = new OwnBirthdays();
        C.due("kept without a land", y.keep(0), 1);
        y.day(5);
        y.seed(7);
        C.due("back", y.goBack(0), 1);
        C.due("day 0", y.told(4), 0);
        C.due("the seed", y.seed(0), 0);
    }
}
