/** Promises 1 to 27: the bounds of each call's numbers, on them and beyond them, where nothing changes. */
public final class CallBoundsTest {
    private static final Checks C = new Checks("CallBoundsTest");
    private static final Checks.Maker LIVELY = States::lively;
    private static final int NONE = Checks.NONE;
    private static final int UNKNOWN = Checks.UNKNOWN;
    private static final int OUTSIDE = Checks.OUTSIDE;
    private static final int NOT = Checks.NOT;

    public static void main(String[] args) {
        promise1NewObject();
        promise2Feed();
        promise3Land();
        promise4Fault();
        promise5Told();
        promise6Person();
        promise7Birthday();
        promise8Good();
        promise9Day();
        promise10Sell();
        promise11Lend();
        promise12Die();
        promise13Begin();
        promise14Foretold();
        promise15Coin();
        promise16Life();
        promise17Votes();
        promise18Given();
        promise19Rests();
        promise20Tell();
        promise21Tear();
        promise22Judge();
        promise23Forged();
        promise24Drift();
        promise25Seed();
        promise26Keep();
        promise27GoBack();
        C.end();
    }

    private static void promise1NewObject() {
        int[] told = {12, 0, 0, 0, 0, 0, 0, 0};
        for (int what = 0; what < 8; what++) {
            C.due("told(" + what + ")", new OwnBirthdays().told(what), told[what]);
        }
        Checks.Maker made = OwnBirthdays::new;
        C.looks("fault", made, x -> x.fault(), NONE);
        C.looks("votes", made, x -> x.votes(0), 0);
        C.looks("rests", made, x -> x.rests(NONE), 0);
        C.looks("forged", made, x -> x.forged(), 0);
        C.looks("judge", made, x -> x.judge(), NONE);
        C.looks("tear", made, x -> x.tear(), 0);
        C.looks("begin", made, x -> x.begin(), 0);
        C.looks("land", made, x -> x.land(), 0);
        C.looks("seed", made, x -> x.seed(0), 0);
        C.refusedBeyond("person", made, (x, p) -> x.person(p, 0), 0, -1, UNKNOWN);
        C.refusedBeyond("birthday", made, (x, b) -> x.birthday(b, 0), 0, -1, UNKNOWN);
        C.refused("sell", made, x -> x.sell(0, 0, 0), UNKNOWN);
        C.refused("lend", made, x -> x.lend(0, 0, 1, 0), UNKNOWN);
        C.refused("die", made, x -> x.die(0), UNKNOWN);
        C.refused("foretold", made, x -> x.foretold(0, 0), UNKNOWN);
        C.refused("coin", made, x -> x.coin(0, 0, 1, 0), UNKNOWN);
        C.refused("life", made, x -> x.life(0, 1, NONE), UNKNOWN);
        C.refused("rests", made, x -> x.rests(0), UNKNOWN);
        C.refused("tell", made, x -> x.tell(0, 0, 0), UNKNOWN);
        C.refused("goBack", made, x -> x.goBack(0), NOT);
        C.due("days go by", new OwnBirthdays().day(9999), 9999);
    }

    private static void promise2Feed() {
        long bytes = 0x3132_3334_3536_3738L;
        for (int n = 1; n <= 8; n++) {
            OwnBirthdays x = new OwnBirthdays();
            C.due("feed " + n, x.feed(n, bytes), n);
            C.due("told " + n, x.told(3), n);
            C.due("again " + n, x.feed(n, bytes), 2 * n);
        }
        C.refusedBeyond("feed", LIVELY, (x, n) -> x.feed(n, bytes), 1, 8, OUTSIDE);
        // the lowest n bytes, the highest of these first: "good 7 1" by n, of bytes that hold more above
        OwnBirthdays x = new OwnBirthdays();
        x.feed(1, 0x7878_7878_7878_7867L);
        x.feed(2, 0x7878_7878_7878_6f6fL);
        x.feed(3, 0xffff_ffff_ff64_2037L);
        x.feed(2, 0x8000_0000_0000_2031L);
        C.due("nine bytes", x.feed(1, -1L << 8 | 0x3b), 9);
        C.due("land", x.land(), 0);
        C.due("good", x.good(7), 1);
        OwnBirthdays y = new OwnBirthdays();
        y.feed(8, 0x676f_6f64_2037_2032L);
        C.due("ten bytes", y.feed(2, 0x333bL), 10);
        C.due("land", y.land(), 0);
        C.due("good", y.good(7), 23);
        // a byte of 255 is one byte, below nothing
        OwnBirthdays z = new OwnBirthdays();
        C.due("eight bytes", z.feed(8, -1L), 8);
        C.due("land", z.land(), -11);
        C.due("fault", z.fault(), 0);
    }

    private static void promise3Land() {
        OwnBirthdays x = States.livelyWithoutText();
        Checks.feed(x, States.crowdedText());
        C.due("how many persons", x.land(), 6);
        C.due("today", x.told(4), 0);
        C.due("who lives", x.told(5), 63);
        C.due("what is lent", x.told(6), 0);
        C.due("told ages", x.told(7), 0);
        C.due("bytes", x.told(3), 0);
        C.due("image 0", x.goBack(0), NOT);
        C.due("the seed", x.seed(0), 4);
        int[] numbers = {1, 2, 3, 4};
        String[] wrong = {"x", "year 1;", "year 2;year 2;", "good 1 1;good 1 1;"};
        for (int i = 0; i < 4; i++) {
            OwnBirthdays y = new OwnBirthdays();
            C.due("-10 less " + numbers[i], Checks.tell(y, wrong[i]), -10 - numbers[i]);
            C.due("the text is empty", y.told(3), 0);
            C.due("so the next is empty, too", y.land(), 0);
        }
    }

    private static void promise4Fault() {
        OwnBirthdays x = new OwnBirthdays();
        C.due("none at first", x.fault(), NONE);
        Checks.tell(x, "x");
        C.due("the first byte", x.fault(), 0);
        Checks.tell(x, " ".repeat(499) + "x");
        C.due("the last byte", x.fault(), 499);
        C.due("still", x.fault(), 499);
        Checks.feed(x, "year 1;");
        C.due("not by feed", x.fault(), 499);
        x.land();
        C.due("of the latest", x.fault(), 5);
        Checks.tell(x, " ".repeat(493) + "person ");
        C.due("the end", x.fault(), 500);
        x.begin();
        C.due("not by begin", x.fault(), 500);
        Checks.tell(x, "person 1 1;");
        C.due("none", x.fault(), NONE);
    }

    private static void promise5Told() {
        int[] told = {10, 4, 5, 8, 4, 7, 1, 3};
        for (int what = 0; what < 8; what++) {
            int which = what;
            C.looks("told(" + what + ")", LIVELY, x -> x.told(which), told[which]);
        }
        C.refusedBeyond("told", LIVELY, (x, what) -> x.told(what), 0, 7, OUTSIDE);
    }

    private static void promise6Person() {
        int[] dead = {40, 0, 0, 0, 0};
        int[] living = {12, 9, 1, 24, 25};
        OwnBirthdays x = States.lively();
        for (int what = 0; what < 5; what++) {
            C.due("person(2, " + what + ")", x.person(2, what), living[what]);
            C.due("person(3, " + what + ")", x.person(3, what), dead[what]);
        }
        C.refusedBeyond("person, p", LIVELY, (y, p) -> y.person(p, 0), 0, 3, UNKNOWN);
        C.refusedBeyond("person, what", LIVELY, (y, what) -> y.person(0, what), 0, 4, OUTSIDE);
        C.refusedBeyond("person of six", States::crowded, (y, p) -> y.person(p, 0), 0, 5, UNKNOWN);
    }

    private static void promise7Birthday() {
        // day 3, of day 4 in a year of 10: in nine days
        int[] lent = {3, 0, 10, 2, 13, 2, 9, 10 + 10 / 10};
        int[] last = {5, 2, 11, NONE, NONE, 2, 1, 11 + 11 * 9 / 10};
        OwnBirthdays x = States.lively();
        for (int what = 0; what < 8; what++) {
            C.due("birthday(0, " + what + ")", x.birthday(0, what), lent[what]);
            C.due("birthday(4, " + what + ")", x.birthday(4, what), last[what]);
        }
        C.refusedBeyond("birthday, b", LIVELY, (y, b) -> y.birthday(b, 0), 0, 4, UNKNOWN);
        C.refusedBeyond("birthday, what", LIVELY, (y, what) -> y.birthday(0, what), 0, 7, OUTSIDE);
        C.refusedBeyond("birthday of eight", States::crowded, (y, b) -> y.birthday(b, 0), 0, 7, UNKNOWN);
    }

    private static void promise8Good() {
        OwnBirthdays x = Checks.landOf("good 0 9;good 120 8;");
        C.due("0", x.good(0), 9);
        C.due("120", x.good(120), 8);
        C.due("121", x.good(121), 0);
        C.due("998", x.good(998), 0);
        C.due("999", x.good(999), 0);
        C.refusedBeyond("good", LIVELY, (y, age) -> y.good(age), 0, 999, OUTSIDE);
    }

    private static void promise9Day() {
        C.due("1", States.lively().day(1), 5);
        C.due("2", States.lively().day(2), 6);
        C.due("9998", States.lively().day(9998), 10002);
        C.due("9999", States.lively().day(9999), 10003);
        C.refusedBeyond("day", LIVELY, (x, n) -> x.day(n), 1, 9999, OUTSIDE);
    }

    private static OwnBirthdays rich() {
        OwnBirthdays x = Checks.landOf("year 10;person 5 999;person 6 999;person 7 999;birthday 3 0 1;birthday 4 1 1;");
        x.die(2);
        return x;
    }

    private static void promise10Sell() {
        C.due("0", States.lively().sell(1, 1, 0), 108);
        C.due("1", States.lively().sell(1, 1, 1), 107);
        C.due("all", States.lively().sell(1, 1, 108), 0);
        C.refused("one more than all", LIVELY, x -> x.sell(1, 1, 109), NOT);
        C.due("0 has 1998", rich().person(0, 1), 1998);
        C.due("998", rich().sell(1, 0, 998), 1000);
        C.due("999", rich().sell(1, 0, 999), 999);
        C.refusedBeyond("sell, sum, of a purse that has it", CallBoundsTest::rich, (x, sum) -> x.sell(1, 0, sum), 0, 999, OUTSIDE);
        C.refusedBeyond("sell, b", LIVELY, (x, b) -> x.sell(b, 1, 0), 0, 4, UNKNOWN);
        C.refusedBeyond("sell, p", LIVELY, (x, p) -> x.sell(1, p, 0), 0, 3, UNKNOWN);
        C.due("the first birthday to the last", States.crowded().sell(7, 0, 999), 0);
    }

    private static void promise11Lend() {
        C.due("a day for 0", States.lively().lend(1, 1, 1, 0), 108);
        C.due("9999 days for all", States.lively().lend(1, 1, 9999, 108), 0);
        C.refused("for one more than all", LIVELY, x -> x.lend(1, 1, 9999, 109), NOT);
        C.due("998", rich().lend(1, 0, 1, 998), 1000);
        C.due("999", rich().lend(1, 0, 9999, 999), 999);
        C.refusedBeyond("lend, n", LIVELY, (x, n) -> x.lend(1, 1, n, 0), 1, 9999, OUTSIDE);
        C.refusedBeyond("lend, sum, of a purse that has it", CallBoundsTest::rich, (x, sum) -> x.lend(1, 0, 1, sum), 0, 999, OUTSIDE);
        C.refusedBeyond("lend, b", LIVELY, (x, b) -> x.lend(b, 1, 1, 0), 0, 4, UNKNOWN);
        C.refusedBeyond("lend, p", LIVELY, (x, p) -> x.lend(1, p, 1, 0), 0, 3, UNKNOWN);
        OwnBirthdays x = States.lively();
        x.lend(1, 1, 1, 0);
        C.due("till the next day", x.birthday(1, 4), 5);
        OwnBirthdays y = States.lively();
        y.lend(1, 1, 9999, 0);
        C.due("till day 10003", y.birthday(1, 4), 10003);
    }

    private static void promise12Die() {
        C.due("the first", States.lively().die(0), 2);
        C.due("the youngest", States.lively().die(2), 0);
        C.due("the last of six", States.crowded().die(5), 0);
        C.refused("dead", LIVELY, x -> x.die(3), NOT);
        C.refusedBeyond("die", LIVELY, (x, p) -> x.die(p), 0, 3, UNKNOWN);
        C.refusedBeyond("die of six", States::crowded, (x, p) -> x.die(p), 0, 5, UNKNOWN);
    }

    private static void promise13Begin() {
        OwnBirthdays x = States.lively();
        C.due("today as it was", x.begin(), 4);
        int[] told = {10, 4, 5, 8, 0, 15, 0, 3};
        for (int what = 0; what < 8; what++) {
            C.due("told(" + what + ")", x.told(what), told[what]);
        }
        int[] age = {17, 30, 12, 40};
        int[] purse = {50, 100, 5, 7};
        int[] owned = {1, 6, 8, 16};
        for (int p = 0; p < 4; p++) {
            C.due("age " + p, x.person(p, 0), age[p]);
            C.due("purse " + p, x.person(p, 1), purse[p]);
            C.due("owned " + p, x.person(p, 3), owned[p]);
            C.due("used " + p, x.person(p, 4), owned[p]);
        }
        C.due("the seed stays", x.seed(4), 4);
        C.due("the fault stays", x.fault(), 11);
        C.due("the first told age is wrong now", x.judge(), 0);
        C.due("the image stays", x.goBack(0), 1);
        C.due("its day", x.told(4), 2);
        C.due("all that were dead live", States.allDead().begin(), 4);
        OwnBirthdays y = States.allDead();
        y.begin();
        C.due("all live", y.told(5), 15);
        C.due("each has its own", y.birthday(4, 1), 3);
        C.due("again", y.begin(), 0);
    }

    private static void promise14Foretold() {
        C.looks("0", LIVELY, x -> x.foretold(2, 0), 12);
        C.looks("1", LIVELY, x -> x.foretold(2, 1), 13);
        C.looks("99998", LIVELY, x -> x.foretold(2, 99998), 999);
        C.looks("99999", LIVELY, x -> x.foretold(2, 99999), 999);
        C.looks("99999 of the dead", LIVELY, x -> x.foretold(3, 99999), 40);
        C.refusedBeyond("foretold, n", LIVELY, (x, n) -> x.foretold(2, n), 0, 99999, OUTSIDE);
        C.refusedBeyond("foretold, p", LIVELY, (x, p) -> x.foretold(p, 0), 0, 3, UNKNOWN);
    }

    private static OwnBirthdays aYearOfTwo() {
        return Checks.landOf("year 2;person 5 0;person 6 0;birthday 1 0 4;birthday 0 1 4;");
    }

    private static void promise15Coin() {
        Checks.Maker two = CallBoundsTest::aYearOfTwo;
        C.looks("v 0", two, x -> x.coin(1, 0, 1, 0), 0);
        C.looks("v 1", two, x -> x.coin(0, 1, 1, 0), 0);
        C.looks("v 999", two, x -> x.coin(0, 999, 1997, 0), 0);
        C.looks("v 999, the set", two, x -> x.coin(0, 999, 1997, 1), 0);
        C.looks("v 999 by two", two, x -> x.coin(0, 999, 999, 0), 4);
        C.looks("v 999 by two, the set", two, x -> x.coin(0, 999, 999, 1), 2);
        C.looks("n 9999", two, x -> x.coin(0, 999, 9999, 0), NONE);
        C.looks("n 9999 of a year of 60", () -> Checks.landOf("year 60;person 5 0;birthday 39 0 1;"), x -> x.coin(0, 167, 9999, 0), 0);
        C.refusedBeyond("coin, v", two, (x, v) -> x.coin(0, v, 1, 0), 0, 999, OUTSIDE);
        C.refusedBeyond("coin, n", two, (x, n) -> x.coin(0, 1, n, 0), 1, 9999, OUTSIDE);
        C.refusedBeyond("coin, what", two, (x, what) -> x.coin(0, 1, 1, what), 0, 1, OUTSIDE);
        C.refusedBeyond("coin, p", two, (x, p) -> x.coin(p, 1, 1, 0), 0, 1, UNKNOWN);
        C.refused("dead", LIVELY, x -> x.coin(3, 0, 1, 0), NOT);
        C.refused("dead, the set", LIVELY, x -> x.coin(3, 0, 1, 1), NOT);
    }

    private static void promise16Life() {
        // 18 now; 5 at 18, 3 at 19, 50 at 20
        C.looks("m 1", LIVELY, x -> x.life(0, 1, NONE), 5);
        C.looks("m 1, year 0", LIVELY, x -> x.life(0, 1, 0), 0);
        C.looks("m 1, year 1", LIVELY, x -> x.life(0, 1, 1), NONE);
        C.looks("m 60", LIVELY, x -> x.life(0, 60, NONE), 3 + 59 * 50);
        C.looks("m 60, year 0", LIVELY, x -> x.life(0, 60, 0), 1);
        C.looks("m 60, year 1", LIVELY, x -> x.life(0, 60, 1), 1);
        C.looks("m 60, year 59", LIVELY, x -> x.life(0, 60, 59), 0);
        C.looks("m 60, year 60", LIVELY, x -> x.life(0, 60, 60), NONE);
        C.looks("m 59, year 59", LIVELY, x -> x.life(0, 59, 59), NONE);
        C.looks("year -2", LIVELY, x -> x.life(0, 60, -2), NONE);
        C.looks("the least year", LIVELY, x -> x.life(0, 60, Integer.MIN_VALUE), NONE);
        C.looks("the greatest year", LIVELY, x -> x.life(0, 60, Integer.MAX_VALUE), NONE);
        C.looks("of the dead: no refusal is named", LIVELY, x -> x.life(3, 60, NONE), 0);
        C.refusedBeyond("life, m", LIVELY, (x, m) -> x.life(0, m, NONE), 1, 60, OUTSIDE);
        C.refusedBeyond("life, p", LIVELY, (x, p) -> x.life(p, 1, NONE), 0, 3, UNKNOWN);
    }

    private static void promise17Votes() {
        C.looks("0", LIVELY, x -> x.votes(0), 7);
        C.looks("12", LIVELY, x -> x.votes(12), 7);
        C.looks("13", LIVELY, x -> x.votes(13), 3);
        C.looks("30", LIVELY, x -> x.votes(30), 2);
        C.looks("31", LIVELY, x -> x.votes(31), 0);
        C.looks("999", LIVELY, x -> x.votes(999), 0);
        C.refusedBeyond("votes", LIVELY, (x, v) -> x.votes(v), 0, 999, OUTSIDE);
    }

    private static void promise18Given() {
        C.looks("k 0", LIVELY, x -> x.given(0, 999, 1, NONE), 0);
        C.looks("k 3", LIVELY, x -> x.given(3, 0, 1, NONE), 0);
        C.looks("k 4 of three", LIVELY, x -> x.given(4, 0, 1, NONE), NONE);
        C.looks("k 6 of six", States::crowded, x -> x.given(6, 0, 1, NONE), 0);
        C.looks("k 6 of three", LIVELY, x -> x.given(6, 0, 1, 0), NONE);
        C.looks("v 999", CallBoundsTest::aYearOfTwo, x -> x.given(1, 999, 9999, NONE), 0);
        C.looks("v 999 of both", CallBoundsTest::aYearOfTwo, x -> x.given(2, 999, 9999, NONE), 0);
        C.looks("v 999, too few days", CallBoundsTest::aYearOfTwo, x -> x.given(1, 999, 1, NONE), NONE);
        C.looks("n 1", CallBoundsTest::aYearOfTwo, x -> x.given(2, 6, 1, NONE), 0);
        // without anybody in need each stays with its user
        int[] user = {2, 0, 1, 2, 2};
        for (int b = 0; b < 5; b++) {
            int which = b;
            C.looks("birthday " + b, LIVELY, x -> x.given(0, 0, 1, which), user[b]);
        }
        C.refusedBeyond("given, k", LIVELY, (x, k) -> x.given(k, 0, 1, NONE), 0, 6, OUTSIDE);
        C.refusedBeyond("given, v", LIVELY, (x, v) -> x.given(0, v, 1, NONE), 0, 999, OUTSIDE);
        C.refusedBeyond("given, n", LIVELY, (x, n) -> x.given(0, 0, n, NONE), 1, 9999, OUTSIDE);
        C.refusedBeyond("given, b", LIVELY, (x, b) -> x.given(0, 0, 1, b), -1, 4, UNKNOWN);
        C.refused("nobody lives", States::allDead, x -> x.given(0, 0, 1, NONE), NOT);
    }

    private static void promise19Rests() {
        C.looks("how many times", LIVELY, x -> x.rests(NONE), 0);
        int[] whose = {0, 0, 1, 2, 2};
        for (int b = 0; b < 5; b++) {
            int which = b;
            C.looks("birthday " + b, LIVELY, x -> x.rests(which), whose[b]);
            C.looks("nobody's " + b, States::allDead, x -> x.rests(which), NONE);
        }
        C.refusedBeyond("rests", LIVELY, (x, b) -> x.rests(b), -1, 4, UNKNOWN);
        C.refusedBeyond("rests of eight", States::crowded, (x, b) -> x.rests(b), -1, 7, UNKNOWN);
    }

    private static void promise20Tell() {
        C.due("n 0, age 0", States.lively().tell(0, 0, 0), 4);
        C.due("n 9999, age 999", States.lively().tell(0, 9999, 999), 4);
        C.due("of the dead", States.lively().tell(3, 0, 40), 4);
        C.refusedBeyond("tell, p", LIVELY, (x, p) -> x.tell(p, 0, 0), 0, 3, UNKNOWN);
        C.refusedBeyond("tell, n", LIVELY, (x, n) -> x.tell(0, n, 0), 0, 9999, OUTSIDE);
        C.refusedBeyond("tell, age", LIVELY, (x, age) -> x.tell(0, 0, age), 0, 999, OUTSIDE);
        C.refused("a 21st", States::fullAges, x -> x.tell(0, 0, 0), Checks.FULL);
    }

    private static void promise21Tear() {
        C.due("three", States.lively().tear(), 3);
        C.due("twenty", States.fullAges().tear(), 20);
        C.looks("none", States::crowded, x -> x.tear(), 0);
        OwnBirthdays x = States.fullAges();
        x.tear();
        C.due("none", x.told(7), 0);
        C.due("none is wrong", x.judge(), NONE);
        C.due("room again", x.tell(0, 0, 0), 1);
    }

    private static void promise22Judge() {
        OwnBirthdays x = States.lively();
        C.due("the second", x.judge(), 1);
        x.tear();
        C.due("none", x.judge(), NONE);
        for (int i = 0; i < 19; i++) {
            x.tell(0, 0, 18);
        }
        C.due("all right", x.judge(), NONE);
        x.tell(0, 0, 17);
        C.due("the 20th", x.judge(), 19);
    }

    private static void promise23Forged() {
        OwnBirthdays x = States.lively();
        C.due("one", x.forged(), 4);
        x.tear();
        C.due("all", x.forged(), 31);
        x.tell(3, 0, 39);
        C.due("none", x.forged(), 0);
    }

    private static void promise24Drift() {
        C.due("1", States.lively().drift(1), 5);
        C.due("998", States.lively().drift(998), 1002);
        C.due("999", States.lively().drift(999), 1003);
        C.due("nobody lives", States.allDead().drift(999), 1003);
        C.refusedBeyond("drift", LIVELY, (x, n) -> x.drift(n), 1, 999, OUTSIDE);
        C.refused("no persons", OwnBirthdays::new, x -> x.drift(1), NOT);
        C.refused("no persons", OwnBirthdays::new, x -> x.drift(999), NOT);
        C.refused("no persons, but goods", () -> Checks.landOf("year 5;good 12 1;"), x -> x.drift(1), NOT);
    }

    private static void promise25Seed() {
        int[] seeds = {0, 1, 2147483646, 2147483647};
        for (int v : seeds) {
            OwnBirthdays x = States.lively();
            C.due("what it was", x.seed(v), 4);
            C.due("what it is", x.seed(0), v);
        }
        C.looks("the same again", LIVELY, x -> x.seed(4), 4);
        C.refused("-1", LIVELY, x -> x.seed(-1), OUTSIDE);
        C.refused("-2", LIVELY, x -> x.seed(-2), OUTSIDE);
        C.refused("the least", LIVELY, x -> x.seed(Integer.MIN_VALUE), OUTSIDE);
    }

    private static void promise26Keep() {
        C.due("0", States.lively().keep(0), 1);
        C.due("1", States.lively().keep(1), 1);
        C.due("without a land", new OwnBirthdays().keep(1), 1);
        C.refusedBeyond("keep", LIVELY, (x, i) -> x.keep(i), 0, 1, UNKNOWN);
    }

    private static void promise27GoBack() {
        C.due("0", States.lively().goBack(0), 1);
        C.refused("1", LIVELY, x -> x.goBack(1), NOT);
        OwnBirthdays x = States.lively();
        x.keep(1);
        C.due("1 when it was kept", x.goBack(1), 1);
        C.refusedBeyond("goBack", LIVELY, (y, i) -> y.goBack(i), 0, 1, UNKNOWN);
        C.refused("0 without a land", OwnBirthdays::new, y -> y.goBack(0), NOT);
    }
}
