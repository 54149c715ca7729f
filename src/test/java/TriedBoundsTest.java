/** The document's section 3, its first part: FORETOLD, COIN, LIFE, VOTES, GIVEN, RESTS at their bounds. */
public final class TriedBoundsTest {
    private static final Checks C = new Checks("TriedBoundsTest");
    private static final int NONE = Checks.NONE;

    public static void main(String[] args) {
        foretoldIsTheAgeBehindTheDays();
        foretoldWhileLoansEnd();
        foretoldIs999AtMost();
        coinForJustSoManyYears();
        coinWhereNothingComes();
        coinLooksNotAtTheBoundOf999();
        coinOnlyByWhatComesInTheseDays();
        coinNotByWhatIsLentOrItsOwn();
        coinByTheUserAsForetold();
        coinAtTheSeasonForAllDays();
        coinOfLikeOnesTheLeastSet();
        coinLooksNotAtThePurse();
        lifeMayBeAYearOlderAtOnce();
        lifeOfLikeOnesTheFirstRow();
        lifeBeyondTheAgesTold();
        lifeOfTheMostYears();
        votesOfThoseWhoLive();
        givenToSoManyOrMore();
        givenJustInTime();
        givenToAnotherThanTheUserNow();
        givenOfLikeOnesTheFirst();
        givenToThoseWhoLive();
        givenTheMost();
        restsWhenNobodyGains();
        restsByWorthMore();
        restsWithTheOneToWhomItIsWorthMost();
        restsBeyondTheAgesTold();
        restsWithoutTheDead();
        restsBehindManyTimes();
        C.end();
    }

    /** "FORETOLD: AGE of a PERSON behind n days more" */
    private static void foretoldIsTheAgeBehindTheDays() {
        OwnBirthdays x = States.lively();
        for (int p = 0; p < 4; p++) {
            C.due("in 0 days, " + p, x.foretold(p, 0), x.person(p, 0));
        }
        for (int n = 1; n <= 25; n++) {
            OwnBirthdays y = States.lively();
            y.day(n);
            for (int p = 0; p < 4; p++) {
                C.due("in " + n + " days, " + p, x.foretold(p, n), y.person(p, 0));
            }
        }
        C.due("no day went by", x.told(4), 4);
        OwnBirthdays z = Checks.landOf("year 60;person 5 0;birthday 7 0 1;");
        z.day(6);
        C.due("a day ahead, 0", z.foretold(0, 0), 5);
        C.due("a day ahead, 1", z.foretold(0, 1), 6);
        C.due("a day ahead, 60", z.foretold(0, 60), 6);
        C.due("a day ahead, 61", z.foretold(0, 61), 7);
        z.day(1);
        C.due("on the day, 0", z.foretold(0, 0), 6);
        C.due("on the day, 59", z.foretold(0, 59), 6);
        C.due("on the day, 60", z.foretold(0, 60), 7);
        // 99999 / 60 = 1666 years would be more than 999
        C.due("on the day, 59519", z.foretold(0, 59519), 997);
        C.due("on the day, 59520", z.foretold(0, 59520), 998);
    }

    /** "if nothing more is done but that LOANS end" */
    private static void foretoldWhileLoansEnd() {
        for (int loan = 1; loan <= 25; loan++) {
            OwnBirthdays x = Checks.landOf("year 10;person 5 0;person 50 0;birthday 3 0 1;");
            x.lend(0, 1, loan, 0);
            int lent = (loan >= 3 ? 1 : 0) + (loan >= 13 ? 1 : 0) + (loan >= 23 ? 1 : 0);
            C.due("lent for " + loan + ", its user", x.foretold(1, 25), 50 + lent);
            C.due("lent for " + loan + ", its owner", x.foretold(0, 25), 5 + 3 - lent);
            C.due("lent for " + loan + ", 0 days", x.foretold(1, 0), 50);
            C.due("lent for " + loan + ", lent still", x.birthday(0, 4), loan);
        }
    }

    private static void foretoldIs999AtMost() {
        OwnBirthdays x = Checks.landOf("year 2;person 120 0;person 0 0;birthday 1 0 1;");
        C.due("998", x.foretold(0, 1756), 998);
        C.due("999", x.foretold(0, 1757), 999);
        C.due("999 at most", x.foretold(0, 1759), 999);
        C.due("999 at most", x.foretold(0, 99999), 999);
        C.due("who has none", x.foretold(1, 99999), 0);
    }

    private static OwnBirthdays coins() {
        return Checks.landOf("year 10;person 10 0;person 20 60;person 30 1;"
            + "birthday 2 0 8;birthday 3 1 20;birthday 4 1 10;birthday 9 2 10;birthday 5 2 10;");
    }

    /** "is to be just v years older behind n days"; NONE. */
    private static void coinForJustSoManyYears() {
        OwnBirthdays x = coins();
        // its own comes twice in 12 days, the other four once each
        int[] sum = {NONE, NONE, 0, 11, 26, 42, 76, NONE, NONE};
        int[] set = {NONE, NONE, 0, 8, 24, 28, 30, NONE, NONE};
        for (int v = 0; v < sum.length; v++) {
            C.due("by " + v, x.coin(0, v, 12, 0), sum[v]);
            C.due("by " + v + ", the set", x.coin(0, v, 12, 1), set[v]);
        }
        // a birthday that comes twice is not had for one year
        OwnBirthdays y = Checks.landOf("year 10;person 1 0;person 2 0;birthday 1 1 5;");
        C.due("once", y.coin(0, 1, 10, 0), 5 + 5 * 9 / 10);
        C.due("twice", y.coin(0, 1, 11, 0), NONE);
        C.due("twice", y.coin(0, 2, 11, 0), 9);
        C.due("twice", y.coin(0, 2, 20, 0), 9);
        C.due("three times", y.coin(0, 2, 21, 0), NONE);
    }

    private static void coinWhereNothingComes() {
        OwnBirthdays x = Checks.landOf("person 1 0;");
        C.due("0", x.coin(0, 0, 9999, 0), 0);
        C.due("0, the set", x.coin(0, 0, 9999, 1), 0);
        C.due("1", x.coin(0, 1, 9999, 0), NONE);
        C.due("1, the set", x.coin(0, 1, 9999, 1), NONE);
        C.due("999", x.coin(0, 999, 9999, 0), NONE);
    }

    /** "(the bound of 999 is not looked at)" */
    private static void coinLooksNotAtTheBoundOf999() {
        OwnBirthdays x = Checks.landOf("year 2;person 120 0;person 1 0;birthday 1 0 1;birthday 1 1 3;");
        x.day(1800);
        C.due("999 years", x.person(0, 0), 999);
        C.due("one more by its own", x.coin(0, 1, 1, 0), 0);
        C.due("not none", x.coin(0, 0, 1, 0), NONE);
        C.due("two with another's", x.coin(0, 2, 1, 0), 4);
        C.due("999 by its own", x.coin(0, 999, 1998, 0), 0);
        C.due("998", x.coin(0, 998, 1998, 0), NONE);
        C.due("998 by one, 1996 days", x.coin(0, 998, 1996, 0), 0);
        C.due("of 1000 years 999 are not enough", x.coin(0, 999, 1999, 0), NONE);
    }

    /** "and come at least once in these days" */
    private static void coinOnlyByWhatComesInTheseDays() {
        for (int day = 0; day < 10; day++) {
            OwnBirthdays x = Checks.landOf("year 10;person 1 0;person 2 0;birthday " + day + " 1 10;");
            int till = day == 0 ? 10 : day;
            int season = 10 + (10 - till);
            if (till > 1) {
                C.due("day " + day + ", a day too few", x.coin(0, 1, till - 1, 0), NONE);
                C.due("day " + day + ", a day too few, none needed", x.coin(0, 0, till - 1, 1), 0);
            }
            C.due("day " + day + ", just", x.coin(0, 1, till, 0), season);
            C.due("day " + day + ", just", x.coin(0, 1, till, 1), 1);
            C.due("day " + day + ", none needed", x.coin(0, 0, till, 1), 0);
        }
    }

    /** "others that have an OWNER, are not LENT, not its own" */
    private static void coinNotByWhatIsLentOrItsOwn() {
        OwnBirthdays x = Checks.landOf("year 10;person 1 0;person 2 0;person 3 0;birthday 5 1 1;birthday 5 1 5;birthday 5 0 1;");
        C.due("its own counts without coin", x.coin(0, 1, 5, 1), 0);
        C.due("the cheaper one", x.coin(0, 2, 5, 1), 1);
        x.lend(0, 2, 3, 0);
        C.due("lent: the dearer one", x.coin(0, 2, 5, 1), 2);
        C.due("not both", x.coin(0, 3, 5, 0), NONE);
        x.lend(1, 0, 3, 0);
        C.due("none is left", x.coin(0, 2, 5, 0), NONE);
        x.day(3);
        C.due("the loans are over", x.coin(0, 2, 2, 1), 1);
        C.due("both", x.coin(0, 3, 2, 1), 3);
        x.begin();
        x.lend(0, 2, 9, 0);
        C.due("its own that is lent is not borrowed back", x.coin(1, 2, 5, 1), 4);
        C.due("its own that is lent is not borrowed back", x.coin(1, 3, 5, 1), NONE);
        C.due("what one has on loan is not borrowed", x.coin(2, 2, 5, 1), 4);
    }

    /** "by BIRTHDAYS of which it is the USER (as FORETOLD)" */
    private static void coinByTheUserAsForetold() {
        OwnBirthdays x = Checks.landOf("year 10;person 1 0;person 2 0;birthday 3 0 1;");
        x.lend(0, 1, 12, 0);
        C.due("the user, day 2", x.coin(1, 0, 2, 0), 0);
        C.due("the user, day 3", x.coin(1, 1, 3, 0), 0);
        C.due("the user, day 13, over on 12", x.coin(1, 1, 13, 0), 0);
        C.due("not two", x.coin(1, 2, 13, 0), NONE);
        C.due("the owner, day 12", x.coin(0, 0, 12, 0), 0);
        C.due("the owner, day 13", x.coin(0, 1, 13, 0), 0);
        C.due("the owner, day 22", x.coin(0, 1, 22, 0), 0);
        C.due("the owner, day 23", x.coin(0, 2, 23, 0), 0);
        x.begin();
        x.lend(0, 1, 13, 0);
        C.due("the user, over on 13", x.coin(1, 2, 13, 0), 0);
        C.due("the owner, day 13", x.coin(0, 0, 13, 0), 0);
        C.due("the owner, day 23", x.coin(0, 1, 23, 0), 0);
    }

    /** "for all of them, each at its SEASON": one SEASON of today for all days, however often it comes. */
    private static void coinAtTheSeasonForAllDays() {
        OwnBirthdays x = Checks.landOf("year 10;person 1 0;person 2 0;birthday 5 1 11;birthday 6 1 12;");
        C.due("both", x.coin(0, 2, 6, 0), 11 + 11 * 5 / 10 + 12 + 12 * 4 / 10);
        C.due("both for a hundred days", x.coin(0, 20, 100, 0), 16 + 16);
        C.due("for 9999 days", x.coin(0, 999, 9999, 0), NONE);
        C.due("for 9990 days", x.coin(0, 999, 9990, 0), 16);
        x.day(4);
        C.due("dearer then", x.coin(0, 2, 6, 0), 11 + 11 * 9 / 10 + 12 + 12 * 8 / 10);
    }

    /** "the least sum; of like ones the least SET of those borrowed" */
    private static void coinOfLikeOnesTheLeastSet() {
        // day 1 comes twice in 11 days and costs 10 + 9; 9 and 10 on day 0 come once each
        OwnBirthdays x = Checks.landOf("year 10;person 1 0;person 2 0;birthday 1 1 10;birthday 0 1 9;birthday 0 1 10;");
        C.due("19 by one or by two", x.coin(0, 2, 11, 0), 19);
        C.due("one, of number 0", x.coin(0, 2, 11, 1), 1);
        OwnBirthdays y = Checks.landOf("year 10;person 1 0;person 2 0;birthday 0 1 9;birthday 0 1 10;birthday 1 1 10;");
        C.due("19 by two or by one", y.coin(0, 2, 11, 0), 19);
        C.due("two, of numbers 0 and 1", y.coin(0, 2, 11, 1), 3);
        OwnBirthdays z = Checks.landOf("year 10;person 1 0;person 2 0;birthday 0 1 11;birthday 0 1 10;birthday 1 1 9;");
        C.due("a lesser sum", z.coin(0, 2, 11, 0), 17);
        C.due("ahead of a lesser set", z.coin(0, 2, 11, 1), 4);
        OwnBirthdays all = Checks.landOf("year 2;person 1 0;person 2 0;" + "birthday 0 1 7;".repeat(8));
        for (int v = 0; v <= 8; v++) {
            C.due("eight like ones, " + v, all.coin(0, v, 2, 1), (1 << v) - 1);
            C.due("eight like ones, " + v, all.coin(0, v, 2, 0), 7 * v);
        }
        C.due("no ninth", all.coin(0, 9, 2, 1), NONE);
    }

    private static void coinLooksNotAtThePurse() {
        OwnBirthdays x = Checks.landOf("year 2;person 1 0;person 2 0;birthday 1 1 99;");
        C.due("an empty purse", x.coin(0, 1, 1, 0), 99 + 49);
    }

    /** "in the first one it may be a year older already" */
    private static void lifeMayBeAYearOlderAtOnce() {
        OwnBirthdays x = Checks.landOf("person 5 0;good 6 3;");
        C.due("one year", x.life(0, 1, NONE), 3);
        C.due("it ages", x.life(0, 1, 0), 1);
        C.due("two years", x.life(0, 2, NONE), 6);
        C.due("it ages", x.life(0, 2, 0), 1);
        C.due("and stays", x.life(0, 2, 1), 0);
        OwnBirthdays y = Checks.landOf("person 5 0;good 7 3;");
        C.due("two years off", y.life(0, 1, NONE), 0);
        C.due("it does not age for nothing", y.life(0, 1, 0), 0);
        C.due("in the second", y.life(0, 2, NONE), 3);
        OwnBirthdays z = Checks.landOf("person 5 0;good 5 3;");
        C.due("as it is", z.life(0, 2, NONE), 6);
        C.due("it stays", z.life(0, 2, 0), 0);
    }

    /** "of like ones the first row of ageing (YEAR by YEAR not ahead of ageing)" */
    private static void lifeOfLikeOnesTheFirstRow() {
        OwnBirthdays x = Checks.landOf("person 5 0;good 5 4;good 6 4;good 7 4;");
        for (int i = 0; i < 6; i++) {
            C.due("never, " + i, x.life(0, 6, i), 0);
        }
        // 9 at 7 for once: 0 0 9 by 0 1 1, 1 0 1 or, for two years of 9, 1 1 0
        OwnBirthdays y = Checks.landOf("person 5 0;good 7 9;good 6 1;");
        int[] row = {1, 1, 0, 0};
        for (int i = 0; i < 4; i++) {
            C.due("soon, " + i, y.life(0, 4, i), row[i]);
        }
        // 5 at ages 5 and 6, 6 at 7: of 5 5 6 6 by 1 1, then stay: 5 6 6 6
        OwnBirthdays z = Checks.landOf("person 5 0;good 5 5;good 6 5;good 8 15;good 7 0;");
        // four years: 5 5 0 15 (25) by 0 1 1 1 or 5 0 15 15 (35) by 1 1 1 0
        int[] four = {1, 1, 1, 0};
        C.due("four years", z.life(0, 4, NONE), 35);
        for (int i = 0; i < 4; i++) {
            C.due("four years, " + i, z.life(0, 4, i), four[i]);
        }
        // three years: 5 5 5 (15) by 0 0 0, 0 0 1, ..; 5 0 15 (20) by 1 1 1
        C.due("three years", z.life(0, 3, NONE), 20);
        OwnBirthdays late = Checks.landOf("person 5 0;good 5 5;good 6 5;good 7 5;good 8 5;good 9 5;good 10 6;");
        // 5 5 5 5 6 by 1 1 1 1 1 alone; in four years nothing is gained: never
        C.due("five years", late.life(0, 5, NONE), 26);
        C.due("five years, at once", late.life(0, 5, 0), 1);
        C.due("four years", late.life(0, 4, NONE), 20);
        C.due("four years, never", late.life(0, 4, 0), 0);
        OwnBirthdays choice = Checks.landOf("person 5 0;good 5 1;good 6 3;good 7 2;good 8 4;");
        // two years: 3 3 (6) by 1 0 ahead of 3 2 (5); three: 3 3 3 (9), 3 2 4 (9): 1 0 0 comes first
        C.due("three years", choice.life(0, 3, NONE), 9);
        int[] three = {1, 0, 0};
        for (int i = 0; i < 3; i++) {
            C.due("three years, " + i, choice.life(0, 3, i), three[i]);
        }
        // four: 3 3 3 3 (12), 3 2 4 4 (13), 3 3 2 4 (12)
        int[] onward = {1, 1, 1, 0};
        C.due("four years", choice.life(0, 4, NONE), 13);
        for (int i = 0; i < 4; i++) {
            C.due("four years, " + i, choice.life(0, 4, i), onward[i]);
        }
    }

    private static void lifeBeyondTheAgesTold() {
        OwnBirthdays x = Checks.landOf("year 2;person 120 0;person 119 0;good 120 9;birthday 1 0 1;");
        C.due("at 120", x.life(0, 60, NONE), 540);
        C.due("it stays", x.life(0, 60, 59), 0);
        C.due("at 119", x.life(1, 60, NONE), 540);
        C.due("it ages at once", x.life(1, 60, 0), 1);
        C.due("and no more", x.life(1, 60, 1), 0);
        x.day(1);
        C.due("at 121", x.life(0, 60, NONE), 0);
        C.due("never", x.life(0, 60, 0), 0);
        x.day(9998);
        C.due("999", x.person(0, 0), 999);
        C.due("at 999", x.life(0, 60, NONE), 0);
        C.due("at 999, never", x.life(0, 60, 59), 0);
    }

    private static void lifeOfTheMostYears() {
        OwnBirthdays x = Checks.landOf("person 0 0;good 60 99;good 59 98;");
        // 59 years to be 59; one more: 60 by 60 years, 98 + 99 or 98 + 98
        C.due("sixty years", x.life(0, 60, NONE), 98 + 99);
        for (int i = 0; i < 60; i++) {
            C.due("sixty years, " + i, x.life(0, 60, i), 1);
        }
        C.due("no 61st", x.life(0, 60, 60), NONE);
        C.due("59 years", x.life(0, 59, NONE), 98);
        C.due("58 years", x.life(0, 58, NONE), 0);
        C.due("58 years, never", x.life(0, 58, 57), 0);
        OwnBirthdays y = Checks.landOf("person 0 0;good 0 99;");
        C.due("the greatest", y.life(0, 60, NONE), 5940);
    }

    /** "VOTES: PERSONS that live and are of AGE v or more (a SET)." */
    private static void votesOfThoseWhoLive() {
        OwnBirthdays x = Checks.landOf("year 2;person 17 0;person 18 0;person 19 0;person 120 0;birthday 1 3 1;");
        C.due("0", x.votes(0), 15);
        C.due("17", x.votes(17), 15);
        C.due("18", x.votes(18), 14);
        C.due("19", x.votes(19), 12);
        C.due("20", x.votes(20), 8);
        C.due("120", x.votes(120), 8);
        C.due("121", x.votes(121), 0);
        x.day(1757);
        C.due("999", x.votes(999), 8);
        x.die(3);
        C.due("999, dead", x.votes(999), 0);
        C.due("0, one dead", x.votes(0), 7);
        x.die(0);
        x.die(1);
        x.die(2);
        C.due("0, all dead", x.votes(0), 0);
    }

    /** "k PERSONS or more that live are of AGE v or more" */
    private static void givenToSoManyOrMore() {
        OwnBirthdays x = Checks.landOf("year 10;person 10 0;person 10 0;person 10 0;birthday 1 0 5;birthday 2 0 6;birthday 3 0 7;");
        int[] sum = {0, 0, 5, 11, NONE, NONE, NONE};
        for (int k = 0; k <= 6; k++) {
            C.due(k + " of 11", x.given(k, 11, 3, NONE), sum[k]);
        }
        C.due("three of 10", x.given(3, 10, 1, NONE), 0);
        C.due("four of 0: there are three", x.given(4, 0, 1, NONE), NONE);
        C.due("four of 0, a birthday", x.given(4, 0, 1, 2), NONE);
        C.due("one of 13", x.given(1, 13, 3, NONE), 0);
        C.due("one of 14", x.given(1, 14, 3, NONE), NONE);
        C.due("two of 12", x.given(2, 12, 3, NONE), NONE);
        // two years for one and one for another: it keeps 6 and 7, or gives two of three away
        C.due("two of 11, one of them 12", x.given(2, 11, 3, 0), 1);
        C.due("none of 999", x.given(0, 999, 1, NONE), 0);
        C.due("none of 999, a birthday", x.given(0, 999, 1, 1), 0);
    }

    /** "behind n days" */
    private static void givenJustInTime() {
        OwnBirthdays x = Checks.landOf("year 10;person 10 0;person 20 0;birthday 3 1 5;");
        C.due("day 2", x.given(2, 11, 2, NONE), NONE);
        C.due("day 3", x.given(2, 11, 3, NONE), 5);
        C.due("day 12", x.given(2, 12, 12, NONE), NONE);
        C.due("day 13", x.given(2, 12, 13, NONE), 5);
        x.day(3);
        C.due("on the day it comes in ten", x.given(2, 11, 9, NONE), NONE);
        C.due("on the day it comes in ten", x.given(2, 11, 10, NONE), 5);
        OwnBirthdays y = Checks.landOf("year 60;person 10 0;birthday 3 0 5;");
        C.due("9999 days", y.given(1, 177, 9999, NONE), 0);
        C.due("9999 days, one more", y.given(1, 178, 9999, NONE), NONE);
        OwnBirthdays z = Checks.landOf("year 2;person 120 0;birthday 1 0 5;");
        C.due("999", z.given(1, 999, 1757, NONE), 0);
        C.due("999, a day less", z.given(1, 999, 1756, NONE), NONE);
        z.day(1756);
        C.due("999 of 998", z.given(1, 999, 1, NONE), 0);
        z.day(1);
        C.due("999 of 999", z.given(1, 999, 1, NONE), 0);
    }

    /** "(LOANS are over then)"; "given to another one than their USER now" */
    private static void givenToAnotherThanTheUserNow() {
        OwnBirthdays x = Checks.landOf("year 10;person 10 0;person 20 0;birthday 3 1 5;");
        x.lend(0, 0, 1, 0);
        C.due("its user has it for all days", x.given(2, 13, 23, NONE), 0);
        C.due("its user", x.given(2, 13, 23, 0), 0);
        C.due("its user, if nobody needs it", x.given(0, 0, 1, 0), 0);
        C.due("its owner is another one", x.given(1, 21, 3, NONE), 5);
        C.due("its owner", x.given(1, 21, 3, 0), 1);
        C.due("it is lent still", x.birthday(0, 4), 1);
        x.day(1);
        C.due("over: its owner keeps it", x.given(1, 21, 3, NONE), 0);
        C.due("over: to the other one it costs", x.given(2, 11, 3, NONE), 5);
    }

    /** "of like ones the first (BIRTHDAY by BIRTHDAY the lesser PERSON)" */
    private static void givenOfLikeOnesTheFirst() {
        OwnBirthdays x = Checks.landOf("year 2;person 1 0;person 1 0;person 1 0;person 9 0;"
            + "birthday 0 3 5;birthday 0 3 5;birthday 0 3 5;birthday 0 3 5;");
        // one more of 2: 0 has the first
        int[][] due = {{3, 3, 3, 3}, {3, 3, 3, 3}, {0, 3, 3, 3}, {0, 1, 3, 3}, {0, 1, 2, 3}};
        for (int k = 0; k <= 4; k++) {
            C.due("sum for " + k, x.given(k, 2, 2, NONE), 5 * Math.max(0, k - 1));
            for (int b = 0; b < 4; b++) {
                C.due("birthday " + b + " for " + k, x.given(k, 2, 2, b), due[k][b]);
            }
        }
        // the owner stands ahead: the last ones are given
        OwnBirthdays y = Checks.landOf("year 2;person 9 0;person 1 0;person 1 0;birthday 0 0 5;birthday 0 0 5;birthday 0 0 5;");
        int[] last = {0, 1, 2};
        int[] one = {0, 0, 1};
        C.due("sum for 3", y.given(3, 2, 2, NONE), 10);
        C.due("sum for 2", y.given(2, 2, 2, NONE), 5);
        for (int b = 0; b < 3; b++) {
            C.due("birthday " + b + " for 3", y.given(3, 2, 2, b), last[b]);
            C.due("birthday " + b + " for 2", y.given(2, 2, 2, b), one[b]);
        }
    }

    /** "to some PERSON that lives" */
    private static void givenToThoseWhoLive() {
        OwnBirthdays x = Checks.landOf("year 2;person 90 0;person 1 0;person 1 0;birthday 0 1 5;birthday 0 1 5;");
        C.due("0 is old enough", x.given(1, 50, 1, NONE), 0);
        x.die(0);
        C.due("0 is dead", x.given(1, 50, 1, NONE), NONE);
        C.due("two live", x.given(2, 2, 2, NONE), 5);
        C.due("two live: the second birthday", x.given(2, 2, 2, 0), 1);
        C.due("two live: the second birthday", x.given(2, 2, 2, 1), 2);
        C.due("three do not", x.given(3, 0, 1, NONE), NONE);
    }

    private static void givenTheMost() {
        OwnBirthdays x = States.crowded();
        // ages 10 to 15, birthdays on days 1 to 8 of prices 1 to 8, all of 5
        C.due("six of 10", x.given(6, 10, 1, NONE), 0);
        C.due("six of 11", x.given(6, 11, 8, NONE), 1);
        C.due("six of 11: to 0", x.given(6, 11, 8, 0), 0);
        C.due("six of 12", x.given(6, 12, 8, NONE), 1 + 2 + 3);
        C.due("six of 13: 3, 2 and 1 years", x.given(6, 13, 8, NONE), 1 + 2 + 3 + 4 + 5 + 6);
        C.due("six of 14: 4, 3, 2 and 1 years", x.given(6, 14, 8, NONE), NONE);
        C.due("five of 14: 3, 2 and 1 years", x.given(5, 14, 8, NONE), 21);
        C.due("four of 15: 3, 2 and 1 years", x.given(4, 15, 8, NONE), 21);
        C.due("one of 23", x.given(1, 23, 8, NONE), 0);
        C.due("one of 24", x.given(1, 24, 8, NONE), NONE);
        int[] due = {0, 0, 0, 1, 1, 2, 5, 5};
        for (int b = 0; b < 8; b++) {
            C.due("six of 13, birthday " + b, x.given(6, 13, 8, b), due[b]);
        }
        C.due("six of 16: all six lack some", x.given(6, 16, 8, NONE), NONE);
        // all six lack a year, all eight are 0's: it gives the five cheapest away, in their order
        OwnBirthdays y = Checks.landOf("year 9;" + "person 10 0;".repeat(6) + "birthday 1 0 8;birthday 2 0 7;birthday 3 0 6;"
            + "birthday 4 0 5;birthday 5 0 4;birthday 6 0 3;birthday 7 0 2;birthday 8 0 1;");
        C.due("six of 11", y.given(6, 11, 8, NONE), 1 + 2 + 3 + 4 + 5);
        C.due("six of 12", y.given(6, 12, 8, NONE), NONE);
        C.due("six of 11, a day less", y.given(6, 11, 7, NONE), 2 + 3 + 4 + 5 + 6);
        int[] six = {0, 0, 0, 1, 2, 3, 4, 5};
        for (int b = 0; b < 8; b++) {
            C.due("six of 11, birthday " + b, y.given(6, 11, 8, b), six[b]);
        }
    }

    /** "As long as some BIRTHDAY .. is worth more to another one": like worth is not more. */
    private static void restsWhenNobodyGains() {
        OwnBirthdays none = Checks.landOf("person 1 0;good 2 9;");
        C.due("no birthdays", none.rests(NONE), 0);
        OwnBirthdays alone = Checks.landOf("person 1 0;birthday 0 0 1;good 1 9;");
        C.due("nobody else", alone.rests(NONE), 0);
        C.due("whose", alone.rests(0), 0);
        OwnBirthdays like = Checks.landOf("person 1 0;person 1 0;birthday 0 0 1;good 2 9;");
        C.due("like worth", like.rests(NONE), 0);
        C.due("whose", like.rests(0), 0);
        OwnBirthdays nothing = Checks.landOf("person 1 0;person 2 0;birthday 0 0 1;birthday 0 1 1;");
        C.due("worth nothing to all", nothing.rests(NONE), 0);
    }

    /** Worth more by 1 is more; less than nothing is less than nothing gained. */
    private static void restsByWorthMore() {
        String two = "person 10 0;person 20 0;birthday 0 0 1;good 11 5;good 21 ";
        C.due("4 against 5", Checks.landOf(two + "4;").rests(NONE), 0);
        C.due("5 against 5", Checks.landOf(two + "5;").rests(NONE), 0);
        C.due("6 against 5", Checks.landOf(two + "6;").rests(NONE), 1);
        C.due("6 against 5: whose", Checks.landOf(two + "6;").rests(0), 1);
        OwnBirthdays x = Checks.landOf("person 10 0;person 20 0;birthday 0 0 1;good 10 1;");
        C.due("worth -1 to its owner", x.rests(NONE), 1);
        C.due("whose", x.rests(0), 1);
        OwnBirthdays y = Checks.landOf("person 10 0;person 20 0;birthday 0 0 1;good 10 3;good 20 2;");
        C.due("worth -3, -2 to the other", y.rests(NONE), 1);
        OwnBirthdays z = Checks.landOf("person 10 0;person 20 0;birthday 0 0 1;good 10 2;good 20 2;");
        C.due("worth -2 to both", z.rests(NONE), 0);
    }

    /** "the first such BIRTHDAY becomes that of the one to whom it is worth most (of like ones the least)" */
    private static void restsWithTheOneToWhomItIsWorthMost() {
        String four = "person 10 0;person 20 0;person 30 0;person 40 0;birthday 0 0 1;";
        OwnBirthdays x = Checks.landOf(four + "good 21 3;good 31 5;good 41 4;");
        C.due("most", x.rests(0), 2);
        C.due("once", x.rests(NONE), 1);
        C.due("of like ones", Checks.landOf(four + "good 21 3;good 31 5;good 41 5;").rests(0), 2);
        C.due("of like ones", Checks.landOf(four + "good 21 5;good 31 5;good 41 5;").rests(0), 1);
        // 3 wants one: of 0's and 1's the first that is worth less to its owner, of number 1
        OwnBirthdays y = Checks.landOf("person 10 0;person 20 0;person 30 0;birthday 0 0 1;birthday 0 1 1;birthday 0 1 1;"
            + "good 11 9;good 31 5;");
        C.due("once", y.rests(NONE), 1);
        C.due("stays", y.rests(0), 0);
        C.due("the first such", y.rests(1), 2);
        C.due("stays", y.rests(2), 1);
        C.due("not done", y.birthday(1, 1), 1);
        // with that one it owns two: the second is worth more than the first
        OwnBirthdays z = Checks.landOf("person 10 0;person 20 0;birthday 0 0 1;birthday 0 0 1;good 21 1;good 22 9;good 12 1;");
        C.due("2 goes over, then the other", z.rests(NONE), 0);
        OwnBirthdays w = Checks.landOf("person 10 0;person 20 0;birthday 0 0 1;birthday 0 1 1;good 21 1;good 22 9;good 12 1;");
        C.due("the first goes over", w.rests(NONE), 1);
        C.due("whose", w.rests(0), 1);
    }

    private static void restsBeyondTheAgesTold() {
        OwnBirthdays x = Checks.landOf("year 2;person 120 0;person 119 0;birthday 1 0 1;good 120 9;");
        C.due("121 against 120", x.rests(NONE), 1);
        C.due("whose", x.rests(0), 1);
        x.day(9999);
        C.due("999", x.person(0, 0), 999);
        C.due("1000 is good by 0", x.rests(NONE), 1);
        C.due("whose", x.rests(0), 1);
        OwnBirthdays y = Checks.landOf("year 2;person 120 0;person 115 0;" + "birthday 1 1 1;".repeat(8) + "good 120 9;good 119 8;");
        // 1 is 115 and owns eight: 123; from 120 on each is worth -9 or 0, so the first goes only if it is worth more to 0
        C.due("0 would lose 9, 1 nothing", y.rests(NONE), 0);
    }

    /** "worth of a BIRTHDAY to a PERSON that lives"; "LOANS are not looked at" */
    private static void restsWithoutTheDead() {
        OwnBirthdays x = Checks.landOf("person 10 0;person 20 0;person 30 0;birthday 0 0 1;good 21 5;good 31 9;");
        C.due("to 2", x.rests(0), 2);
        x.lend(0, 1, 9, 0);
        C.due("lent: to 2", x.rests(0), 2);
        C.due("lent: once", x.rests(NONE), 1);
        x.die(2);
        C.due("to 1", x.rests(0), 1);
        x.die(1);
        C.due("stays", x.rests(NONE), 0);
        C.due("whose", x.rests(0), 0);
        x.die(0);
        C.due("nobody", x.rests(NONE), 0);
        C.due("whose", x.rests(0), NONE);
    }

    /** The longest that a search found; no land is known that comes near to the bound of 40 times. */
    private static void restsBehindManyTimes() {
        OwnBirthdays x = Checks.landOf("person 21 0;person 18 0;person 6 0;person 1 0;person 9 0;person 24 0;"
            + "birthday 1 0 1;birthday 1 5 1;birthday 1 5 1;birthday 1 4 1;birthday 1 4 1;birthday 1 5 1;birthday 1 0 1;birthday 1 5 1;"
            + "good 23 10;good 21 35;good 9 80;good 27 1;good 2 11;good 5 91;good 8 23;good 20 13;good 4 60;good 24 25;");
        C.due("25 times", x.rests(NONE), 25);
        int[] whose = {2, 3, 2, 3, 3, 1, 3, 2};
        for (int b = 0; b < 8; b++) {
            C.due("whose is " + b, x.rests(b), whose[b]);
        }
    }
}
