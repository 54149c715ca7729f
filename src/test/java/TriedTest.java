/** Promises 14 to 19: what is tried. */
public final class TriedTest {
    private static final Checks C = new Checks("TriedTest");

    public static void main(String[] args) {
        foretelling();
        coins();
        coinsWithLoans();
        lives();
        votes();
        giving();
        givingWithLoans();
        resting();
        restingForLong();
        C.end();
    }

    private static void foretelling() {
        OwnBirthdays x = Checks.landOf("year 4;person 10 50;person 20 60;birthday 0 0 8;birthday 1 1 9;birthday 1 1 9;");
        C.due("unknown", x.foretold(2, -1), Checks.UNKNOWN);
        C.due("unknown", x.foretold(-1, 0), Checks.UNKNOWN);
        C.due("n -1", x.foretold(0, -1), Checks.OUTSIDE);
        C.due("n 100000", x.foretold(0, 100000), Checks.OUTSIDE);
        C.due("now", x.foretold(1, 0), 20);
        C.due("1", x.foretold(1, 1), 22);
        C.due("4", x.foretold(1, 4), 22);
        C.due("5", x.foretold(1, 5), 24);
        C.due("3", x.foretold(0, 3), 10);
        C.due("4", x.foretold(0, 4), 11);
        C.due("99999", x.foretold(0, 99999), 999);
        x.lend(1, 0, 5, 0);
        C.due("lent to 0", x.foretold(0, 5), 13);
        C.due("two at first, two then", x.foretold(1, 9), 20 + 1 + 1 + 2);
        C.due("the loan ends", x.foretold(0, 9), 10 + 2 + 2);
        C.due("nothing was done", x.told(4), 0);
        C.due("nothing was done", x.told(6), 2);
        x.die(1);
        C.due("the dead do not age", x.foretold(1, 99999), 20);
        C.due("all is 0's", x.foretold(0, 5), 10 + 1 + 2 + 2);
    }

    private static void coins() {
        OwnBirthdays x = Checks.landOf("year 10;person 10 0;person 20 60;person 30 1;"
            + "birthday 2 0 8;birthday 3 1 20;birthday 4 1 10;birthday 9 2 10;birthday 5 2 10;");
        C.due("unknown", x.coin(3, -1, 0, 9), Checks.UNKNOWN);
        C.due("v -1", x.coin(0, -1, 5, 0), Checks.OUTSIDE);
        C.due("v 1000", x.coin(0, 1000, 5, 0), Checks.OUTSIDE);
        C.due("n 0", x.coin(0, 1, 0, 0), Checks.OUTSIDE);
        C.due("n 10000", x.coin(0, 1, 10000, 0), Checks.OUTSIDE);
        C.due("what 2", x.coin(0, 1, 1, 2), Checks.OUTSIDE);
        C.due("what -1", x.coin(0, 1, 1, -1), Checks.OUTSIDE);
        C.due("by its own", x.coin(0, 1, 5, 0), 0);
        C.due("by its own", x.coin(0, 1, 5, 1), 0);
        C.due("too old already", x.coin(0, 0, 5, 0), Checks.NONE);
        C.due("too old already", x.coin(0, 0, 5, 1), Checks.NONE);
        C.due("cheapest in 5 days", x.coin(0, 2, 5, 0), 10 + 10 * 5 / 10);
        C.due("cheapest in 5 days", x.coin(0, 2, 5, 1), 16);
        C.due("cheapest in 10 days", x.coin(0, 2, 10, 0), 11);
        C.due("cheapest in 10 days", x.coin(0, 2, 10, 1), 8);
        C.due("two", x.coin(0, 3, 10, 0), 11 + 15);
        C.due("two", x.coin(0, 3, 10, 1), 8 + 16);
        C.due("all", x.coin(0, 5, 10, 0), 34 + 16 + 11 + 15);
        C.due("not so many", x.coin(0, 6, 10, 0), Checks.NONE);
        C.due("years of a loan", x.coin(1, 15, 50, 0), 11);
        C.due("the bound of 999 is not looked at", x.coin(0, 999, 9990, 0), 0);
        C.due("nothing comes", x.coin(0, 0, 1, 0), 0);
        C.due("nothing comes", x.coin(0, 1, 1, 0), Checks.NONE);
        C.due("nothing was done", x.told(6), 0);
        x.die(0);
        C.due("dead", x.coin(0, 1, 5, 0), Checks.NOT);
        OwnBirthdays like = Checks.landOf("year 10;person 1 0;person 2 0;birthday 5 1 4;birthday 5 1 4;birthday 5 1 8;birthday 5 1 4;");
        C.due("the least set", like.coin(0, 1, 5, 1), 1);
        C.due("the least set", like.coin(0, 2, 5, 1), 3);
        C.due("the least set", like.coin(0, 3, 5, 1), 11);
        // one of 3 + one of 9 costs what two of 6 cost: {1, 2} is 6, {0, 3} is 9
        OwnBirthdays tie = Checks.landOf("year 2;person 1 0;person 2 0;birthday 0 1 3;birthday 0 1 6;birthday 0 1 6;birthday 0 1 9;");
        C.due("the least sum", tie.coin(0, 2, 2, 1), 3);
        C.due("a like set", tie.coin(0, 3, 2, 0), 15);
    }

    private static void coinsWithLoans() {
        OwnBirthdays x = Checks.landOf("year 5;person 1 9;person 2 9;person 3 9;birthday 1 0 4;birthday 2 1 4;birthday 3 1 9;birthday 4 2 50;");
        x.lend(0, 1, 6, 0);
        C.due("its own comes back", x.coin(0, 1, 11, 0), 0);
        C.due("lent, not to be had", x.coin(2, 2, 4, 1), 2);
        C.due("lent, not to be had", x.coin(2, 4, 4, 0), Checks.NONE);
        C.due("a loan ends", x.coin(1, 6, 11, 0), 0);
        C.due("a loan that ends", x.coin(1, 3 + 2 + 2, 11, 0), Checks.NONE);
        C.due("two by another's", x.coin(1, 3 + 2 + 2, 12, 1), 0);
        C.due("and one more", x.coin(1, 3 + 2 + 2 + 2, 12, 1), 8);
        x.die(0);
        C.due("the heir of a loan", x.coin(1, 3, 3, 0), 0);
    }

    private static void lives() {
        OwnBirthdays x = Checks.landOf("person 5 0;person 120 0;person 7 0;good 6 3;good 7 5;good 9 8;good 120 1;good 8 0;");
        C.due("unknown", x.life(3, 0, 0), Checks.UNKNOWN);
        C.due("m 0", x.life(0, 0, 0), Checks.OUTSIDE);
        C.due("m 61", x.life(0, 61, 0), Checks.OUTSIDE);
        C.due("i 1 of 1", x.life(0, 1, 1), Checks.NONE);
        C.due("i -2", x.life(0, 1, -2), Checks.NONE);
        C.due("i least", x.life(0, 1, Integer.MIN_VALUE), Checks.NONE);
        C.due("i greatest", x.life(0, 60, Integer.MAX_VALUE), Checks.NONE);
        C.due("one year", x.life(0, 1, -1), 3);
        C.due("ages at once", x.life(0, 1, 0), 1);
        C.due("two", x.life(0, 2, -1), 8);
        C.due("three", x.life(0, 3, -1), 13);
        // 3 5 5 5 5 5 5 (33), 3 5 0 8 8 8 8 (40)
        C.due("seven", x.life(0, 7, -1), 40);
        int[] row = {1, 1, 1, 1, 0, 0, 0};
        for (int i = 0; i < row.length; i++) {
            C.due("seven, year " + i, x.life(0, 7, i), row[i]);
        }
        C.due("stays", x.life(1, 60, -1), 60);
        C.due("stays", x.life(1, 60, 59), 0);
        C.due("sixty", x.life(0, 60, -1), 8 + 57 * 8);
        // of like ones: from 7 in 3 years 5 5 5 (15), 0 8 8 (16); not ageing comes first where it is like
        C.due("from 7", x.life(2, 3, -1), 16);
        OwnBirthdays like = Checks.landOf("person 1 0;good 1 4;good 2 4;good 3 5;");
        // 4 4 5 by 0 1 1 or 1 0 1; 4 5 5 by 1 1 0
        C.due("like", like.life(0, 1, 0), 0);
        C.due("like", like.life(0, 3, 0), 1);
        OwnBirthdays late = Checks.landOf("person 1 0;good 2 4;good 1 4;");
        C.due("late", late.life(0, 3, 2), 0);
        OwnBirthdays slow = Checks.landOf("person 60 0;good 120 1;");
        C.due("at last", slow.life(0, 60, -1), 1);
        C.due("at last", slow.life(0, 60, 59), 1);
        C.due("too late", slow.life(0, 59, -1), 0);
        C.due("too late", slow.life(0, 59, 0), 0);
        OwnBirthdays nothing = Checks.landOf("person 120 0;");
        nothing.day(5);
        C.due("nothing good", nothing.life(0, 60, -1), 0);
        C.due("nothing good", nothing.life(0, 60, 30), 0);
        x.die(2);
        C.due("a PERSON, dead or not", x.life(2, 3, -1), 16);
    }

    private static void votes() {
        OwnBirthdays x = Checks.landOf("person 17 0;person 18 0;person 120 0;person 0 0;");
        C.due("v -1", x.votes(-1), Checks.OUTSIDE);
        C.due("v 1000", x.votes(1000), Checks.OUTSIDE);
        C.due("all", x.votes(0), 15);
        C.due("18", x.votes(18), 6);
        C.due("17", x.votes(17), 7);
        C.due("999", x.votes(999), 0);
        x.die(1);
        C.due("the dead do not", x.votes(0), 13);
    }

    private static void giving() {
        OwnBirthdays x = Checks.landOf("year 10;person 10 0;person 20 0;person 15 0;"
            + "birthday 2 0 8;birthday 3 1 20;birthday 4 1 10;birthday 9 2 10;birthday 9 1 10;");
        C.due("unknown", x.given(9, 0, 1, 5), Checks.UNKNOWN);
        C.due("unknown", x.given(0, 0, 1, -2), Checks.UNKNOWN);
        C.due("k -1", x.given(-1, 0, 1, -1), Checks.OUTSIDE);
        C.due("k 7", x.given(7, 0, 1, -1), Checks.OUTSIDE);
        C.due("v -1", x.given(0, -1, 1, -1), Checks.OUTSIDE);
        C.due("v 1000", x.given(0, 1000, 1, -1), Checks.OUTSIDE);
        C.due("n 0", x.given(0, 0, 0, -1), Checks.OUTSIDE);
        C.due("n 10000", x.given(0, 0, 10000, -1), Checks.OUTSIDE);
        C.due("nothing needed", x.given(0, 999, 1, -1), 0);
        C.due("nothing needed", x.given(0, 999, 1, 3), 2);
        C.due("one is", x.given(1, 20, 1, -1), 0);
        C.due("more than there are", x.given(4, 0, 1, -1), Checks.NONE);
        C.due("two of 17", x.given(2, 17, 10, -1), 8);
        int[] two = {2, 1, 1, 2, 1};
        C.due("two of 18", x.given(2, 18, 10, -1), 18);
        int[] three = {2, 1, 1, 2, 2};
        for (int b = 0; b < 5; b++) {
            C.due("two of 17, birthday " + b, x.given(2, 17, 10, b), two[b]);
            C.due("two of 18, birthday " + b, x.given(2, 18, 10, b), three[b]);
        }
        C.due("too few days", x.given(2, 17, 2, -1), Checks.NONE);
        C.due("too few days", x.given(2, 17, 2, 0), Checks.NONE);
        C.due("three of 17, 20 days", x.given(3, 17, 20, -1), 40);
        C.due("nothing was done", x.person(2, 3), 8);
        x.die(1);
        C.due("the dead do not count", x.given(3, 0, 1, -1), Checks.NONE);
        x.die(0);
        x.die(2);
        C.due("nobody lives", x.given(0, 0, 1, 0), Checks.NOT);
        C.due("OUTSIDE ahead of it", x.given(0, 0, 0, 0), Checks.OUTSIDE);
        // 0 and 2 need one each: any two of 1's like birthdays; birthday by birthday the lesser person
        OwnBirthdays like = Checks.landOf("year 2;person 1 0;person 9 0;person 1 0;birthday 0 1 5;birthday 0 1 5;birthday 0 1 5;");
        int[] first = {0, 1, 2};
        int[] due = {0, 1, 2};
        C.due("like", like.given(3, 2, 2, -1), 10);
        for (int b : first) {
            C.due("like, birthday " + b, like.given(3, 2, 2, b), due[b]);
        }
        givingAllOfAll();
        OwnBirthdays none = Checks.landOf("person 5 0;");
        C.due("no birthdays", none.given(1, 5, 1, -1), 0);
        C.due("no birthdays", none.given(1, 6, 9999, -1), Checks.NONE);
    }

    private static void givingAllOfAll() {
        StringBuilder text = new StringBuilder("year 9;");
        for (int p = 0; p < 6; p++) {
            text.append("person 3 0;");
        }
        for (int b = 0; b < 8; b++) {
            text.append("birthday ").append(b).append(" 5 ").append(10 + b).append(";");
        }
        OwnBirthdays x = Checks.landOf(text.toString());
        // day 0 comes last: within 8 days birthdays 1 to 7 come, so 0 is of no use and stays
        int[] eightDays = {5, 0, 1, 2, 3, 4, 5, 5};
        int[] nineDays = {0, 1, 2, 3, 4, 5, 5, 5};
        C.due("six, 8 days", x.given(6, 4, 8, -1), 11 + 12 + 13 + 14 + 15);
        C.due("six, 9 days", x.given(6, 4, 9, -1), 10 + 11 + 12 + 13 + 14);
        for (int b = 0; b < 8; b++) {
            C.due("six, 8 days, birthday " + b, x.given(6, 4, 8, b), eightDays[b]);
            C.due("six, 9 days, birthday " + b, x.given(6, 4, 9, b), nineDays[b]);
        }
        C.due("six of 5", x.given(6, 5, 9, -1), Checks.NONE);
        C.due("four of 5, the fourth keeps two", x.given(4, 5, 9, -1), 10 + 11 + 12 + 13 + 14 + 15);
        C.due("one of 11", x.given(1, 11, 9, -1), 0);
        C.due("one of 12", x.given(1, 12, 9, -1), Checks.NONE);
    }

    private static void givingWithLoans() {
        OwnBirthdays x = Checks.landOf("year 2;person 1 0;person 9 0;birthday 0 1 5;birthday 1 0 7;");
        x.lend(0, 0, 1, 0);
        C.due("its user keeps it for nothing", x.given(2, 3, 2, -1), 0);
        C.due("its user keeps it", x.given(2, 3, 2, 0), 0);
        C.due("to its owner it costs", x.given(1, 11, 2, -1), 12);
        C.due("to its owner", x.given(1, 11, 2, 0), 1);
    }

    private static void resting() {
        OwnBirthdays x = Checks.landOf("person 1 0;person 4 0;person 5 0;birthday 0 0 1;birthday 0 0 1;birthday 0 1 1;"
            + "good 2 1;good 3 9;good 5 4;good 6 6;good 7 8;");
        C.due("unknown", x.rests(3), Checks.UNKNOWN);
        C.due("unknown", x.rests(-2), Checks.UNKNOWN);
        // 0 has two: the second is worth 8 to it; 1 has one worth 4, to 2 it is worth 2, to 0 0 - 9
        C.due("at rest", x.rests(-1), 0);
        C.due("whose", x.rests(2), 1);
        x.sell(0, 2, 0);
        // 0 has one (worth 1, the next 8), 1 one (4, next 2), 2 one (2, next 2): birthday 0 of 2 goes to 0
        C.due("once", x.rests(-1), 1);
        C.due("whose", x.rests(0), 0);
        C.due("nothing was done", x.birthday(0, 1), 2);
        x.lend(0, 1, 99, 0);
        C.due("loans are not looked at", x.rests(-1), 1);
        x.die(0);
        C.due("the dead gain nothing", x.rests(1), 1);
        x.die(1);
        x.die(2);
        C.due("nobody's", x.rests(-1), 0);
        C.due("nobody's", x.rests(0), Checks.NONE);
        OwnBirthdays like = Checks.landOf("person 1 0;person 2 0;person 2 0;person 2 0;birthday 0 0 1;good 3 5;");
        C.due("of like ones the least", like.rests(0), 1);
    }

    private static void restingForLong() {
        // a birthday is worth less the more one has: they go over until both have like many
        OwnBirthdays x = Checks.landOf("person 0 0;person 0 0;birthday 0 0 1;birthday 1 0 1;birthday 2 0 1;birthday 3 0 1;"
            + "birthday 4 0 1;birthday 5 0 1;birthday 6 0 1;birthday 7 0 1;"
            + "good 1 30;good 2 50;good 3 65;good 4 75;good 5 82;good 6 87;good 7 90;good 8 91;");
        C.due("till both have four", x.rests(-1), 4);
        for (int b = 0; b < 8; b++) {
            C.due("whose is " + b, x.rests(b), b < 4 ? 1 : 0);
        }
    }
}
