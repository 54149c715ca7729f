/** Promises 9 to 13: days, deals. */
public final class DaysDealsTest {
    private static final Checks C = new Checks("DaysDealsTest");
    private static final String THREE = "year 4;person 10 50;person 20 60;person 10 5;"
        + "birthday 0 0 8;birthday 1 1 9;birthday 3 1 10;";

    public static void main(String[] args) {
        days();
        oldest();
        selling();
        lending();
        dying();
        dyingLast();
        beginning();
        C.end();
    }

    private static void days() {
        OwnBirthdays x = Checks.landOf(THREE);
        C.due("day(0)", x.day(0), Checks.OUTSIDE);
        C.due("day(10000)", x.day(10000), Checks.OUTSIDE);
        C.due("day(-1)", x.day(-1), Checks.OUTSIDE);
        C.due("day(1)", x.day(1), 1);
        C.due("of day 1", x.person(1, 0), 21);
        C.due("not of day 0", x.person(0, 0), 10);
        C.due("day(2)", x.day(2), 3);
        C.due("of day 3", x.person(1, 0), 22);
        C.due("day(1)", x.day(1), 4);
        C.due("of day 4, which is 0", x.person(0, 0), 11);
        C.due("who has none does not age", x.person(2, 0), 10);
        C.due("day(40)", x.day(40), 44);
        C.due("ten years", x.person(0, 0), 21);
        C.due("twice ten", x.person(1, 0), 42);
    }

    private static void oldest() {
        OwnBirthdays x = Checks.landOf("year 2;person 120 0;birthday 0 0 1;birthday 1 0 1;");
        C.due("day(877)", x.day(877), 877);
        C.due("997", x.person(0, 0), 997);
        C.due("day(9999)", x.day(9999), 10876);
        C.due("999", x.person(0, 0), 999);
        C.due("day(9999)", x.day(9999), 20875);
        C.due("999 still", x.person(0, 0), 999);
    }

    private static void selling() {
        OwnBirthdays x = Checks.landOf(THREE);
        C.due("no such birthday", x.sell(3, 0, 1000), Checks.UNKNOWN);
        C.due("no such birthday", x.sell(-1, 0, 0), Checks.UNKNOWN);
        C.due("no such person", x.sell(0, 3, 1000), Checks.UNKNOWN);
        C.due("no such person", x.sell(0, -1, 0), Checks.UNKNOWN);
        C.due("sum 1000", x.sell(0, 0, 1000), Checks.OUTSIDE);
        C.due("sum -1", x.sell(0, 1, -1), Checks.OUTSIDE);
        C.due("its own", x.sell(0, 0, 0), Checks.NOT);
        C.due("too dear", x.sell(1, 0, 51), Checks.NOT);
        C.due("nothing changed", x.person(0, 1), 50);
        C.due("sold", x.sell(1, 0, 50), 0);
        C.due("paid", x.person(1, 1), 110);
        C.due("owned", x.person(0, 3), 3);
        C.due("owned", x.person(1, 3), 4);
        C.due("for nothing", x.sell(1, 2, 0), 5);
        x.day(1);
        C.due("ages its owner", x.person(2, 0), 11);
        C.due("not the earlier ones", x.person(0, 0), 10);
        x.lend(1, 0, 1, 0);
        C.due("lent", x.sell(1, 1, 0), Checks.NOT);
        x.day(1);
        C.due("lent no more", x.sell(1, 1, 1), 109);
        x.die(2);
        C.due("to the dead", x.sell(1, 2, 0), Checks.NOT);
    }

    private static void lending() {
        OwnBirthdays x = Checks.landOf(THREE);
        C.due("no such birthday", x.lend(3, 0, 0, 1000), Checks.UNKNOWN);
        C.due("no such person", x.lend(0, 3, 0, 0), Checks.UNKNOWN);
        C.due("no days", x.lend(0, 0, 0, 0), Checks.OUTSIDE);
        C.due("too many days", x.lend(0, 1, 10000, 0), Checks.OUTSIDE);
        C.due("sum 1000", x.lend(0, 1, 1, 1000), Checks.OUTSIDE);
        C.due("sum -1", x.lend(0, 1, 1, -1), Checks.OUTSIDE);
        C.due("its own", x.lend(0, 0, 1, 0), Checks.NOT);
        C.due("too dear", x.lend(0, 2, 1, 6), Checks.NOT);
        C.due("lent", x.lend(0, 2, 8, 5), 0);
        C.due("paid", x.person(0, 1), 55);
        C.due("till", x.birthday(0, 4), 8);
        C.due("lent already", x.lend(0, 1, 1, 0), Checks.NOT);
        C.due("lent already", x.lend(0, 2, 1, 0), Checks.NOT);
        C.due("the owner stays", x.birthday(0, 1), 0);
        x.day(7);
        C.due("ages the user", x.person(2, 0), 11);
        C.due("lent still", x.told(6), 1);
        x.day(1);
        C.due("on the last day, too", x.person(2, 0), 12);
        C.due("over", x.told(6), 0);
        C.due("over", x.birthday(0, 5), 0);
        x.day(4);
        C.due("the owner ages again", x.person(0, 0), 11);
        C.due("9999 days", x.lend(0, 1, 9999, 60), 0);
        C.due("till", x.birthday(0, 4), 10011);
        x.day(9999);
        C.due("over behind them at once", x.birthday(0, 3), Checks.NONE);
        x.lend(0, 1, 10, 0);
        x.day(9999);
        C.due("lent in a part of the days", x.person(0, 0), 999);
        x.die(2);
        C.due("to the dead", x.lend(0, 2, 1, 0), Checks.NOT);
    }

    private static void dying() {
        OwnBirthdays x = Checks.landOf(THREE + "person 9 1;");
        C.due("unknown", x.die(4), Checks.UNKNOWN);
        C.due("unknown", x.die(-1), Checks.UNKNOWN);
        x.lend(0, 3, 100, 0);
        x.lend(1, 2, 100, 0);
        C.due("the youngest has all", x.die(1), 3);
        C.due("no more", x.die(1), Checks.NOT);
        C.due("birthdays", x.person(3, 3), 6);
        C.due("purse", x.person(3, 1), 61);
        C.due("empty", x.person(1, 1), 0);
        C.due("a loan to another stays", x.birthday(1, 3), 2);
        C.due("a loan to the heir stays not", x.die(0), 3);
        C.due("over", x.birthday(0, 3), Checks.NONE);
        C.due("over", x.birthday(0, 4), Checks.NONE);
        C.due("owned", x.person(3, 3), 7);
        C.due("a loan to the dead is over", x.die(2), 3);
        C.due("over", x.told(6), 0);
        C.due("all", x.person(3, 1), 116);
        C.due("lives", x.told(5), 8);
        x.begin();
        x.die(3);
        C.due("of like ones the least", x.die(1), 0);
        C.due("the dead does not inherit", x.die(0), 2);
    }

    private static void dyingLast() {
        OwnBirthdays x = Checks.landOf("year 4;person 1 7;person 2 8;birthday 1 0 1;birthday 2 1 1;");
        x.lend(1, 0, 50, 0);
        C.due("first", x.die(1), 0);
        C.due("loan of the heir's own is over", x.told(6), 0);
        C.due("last", x.die(0), Checks.NONE);
        C.due("purse", x.person(0, 1), 0);
        C.due("nobody's", x.birthday(1, 1), Checks.NONE);
        C.due("days go by", x.day(8), 8);
        C.due("nobody ages", x.person(0, 0), 1);
        C.due("no owner", x.sell(0, 0, 0), Checks.NOT);
        C.due("no owner", x.lend(0, 0, 1, 0), Checks.NOT);
    }

    private static void beginning() {
        OwnBirthdays x = Checks.landOf(THREE);
        x.seed(5);
        x.tell(0, 1, 1);
        x.sell(1, 0, 10);
        x.lend(2, 0, 100, 10);
        x.day(9);
        x.keep(1);
        x.die(2);
        x.feed(2, 0);
        C.due("begin", x.begin(), 9);
        C.due("begin", x.begin(), 0);
        C.due("today", x.told(4), 0);
        C.due("all live", x.told(5), 7);
        C.due("nothing lent", x.told(6), 0);
        C.due("told ages stay", x.told(7), 1);
        C.due("the text stays", x.told(3), 2);
        C.due("age", x.person(0, 0), 10);
        C.due("purse", x.person(0, 1), 50);
        C.due("owned", x.person(1, 3), 6);
        C.due("the seed stays", x.seed(5), 5);
        C.due("images stay", x.goBack(1), 1);
        C.due("as kept", x.told(4), 9);
        C.due("as kept", x.told(6), 4);
    }
}
