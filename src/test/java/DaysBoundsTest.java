/** The document's section 2: days that come round again, the greatest AGE, the end of LOANS, deals and deaths. */
public final class DaysBoundsTest {
    private static final Checks C = new Checks("DaysBoundsTest");
    private static final int NONE = Checks.NONE;
    private static final int NOT = Checks.NOT;

    public static void main(String[] args) {
        theDayOfTheYearComesRoundAgain();
        todayIs0AtFirst();
        allOfADayComeTogether();
        anAgeIs999AtMost();
        aLoanIsTillTheEndOfADay();
        aLoanOfTheMostDays();
        aLoanFromALaterDayOn();
        aLoanEndsWithinTheDaysOfOneCall();
        theUserIsWhomItIsLentTo();
        onlyWhatHasAnOwnerAndIsNotLent();
        onlyToAnotherOneThatLives();
        thePurseHasTheSum();
        aPurseMayGrowBeyond999();
        theYoungestThatLivesHasAll();
        ofLikeOnesTheLeast();
        loansToTheDeadAreOver();
        aLoanToTheHeirIsOver();
        otherLoansStay();
        withoutAnyTheyAreNobodys();
        theDeadDoNotAgeBuyBorrow();
        tillIs1ToN();
        seasonByTill();
        C.end();
    }

    /** "DAYS are counted from 0; day t is day t left over by N of the YEAR." */
    private static void theDayOfTheYearComesRoundAgain() {
        int[] years = {2, 3, 12, 59, 60};
        for (int n : years) {
            OwnBirthdays x = Checks.landOf("year " + n + ";person 0 0;person 0 0;person 0 0;birthday 0 0 1;birthday 1 1 1;birthday "
                + (n - 1) + " 2 1;");
            for (int t = 1; t <= 3 * n + 1; t++) {
                int left = t % n;
                if (left > 2 && left < n - 2) {
                    continue;
                }
                C.due("year of " + n + ": day", x.day(t - x.told(4)), t);
                C.due("year of " + n + ", day " + t + ": of day 0", x.person(0, 0), t / n);
                C.due("year of " + n + ", day " + t + ": of day 1", x.person(1, 0), (t + n - 1) / n);
                C.due("year of " + n + ", day " + t + ": of the last day", x.person(2, 0), (t + 1) / n);
            }
        }
    }

    /** "TODAY is 0 at first." */
    private static void todayIs0AtFirst() {
        OwnBirthdays x = Checks.landOf("year 2;person 5 0;birthday 0 0 1;");
        C.due("today", x.told(4), 0);
        C.due("day 0 does not come at once", x.person(0, 0), 5);
        C.due("it comes in a whole year", x.birthday(0, 6), 2);
        C.due("day 1", x.day(1), 1);
        C.due("not yet", x.person(0, 0), 5);
        C.due("day 2", x.day(1), 2);
        C.due("now", x.person(0, 0), 6);
    }

    /** "then each BIRTHDAY of that day of the YEAR makes its USER one year older" */
    private static void allOfADayComeTogether() {
        OwnBirthdays x = Checks.landOf("year 3;person 5 0;person 5 0;person 5 0;" + "birthday 1 0 1;".repeat(7) + "birthday 1 1 1;");
        x.day(1);
        C.due("seven at once", x.person(0, 0), 12);
        C.due("one", x.person(1, 0), 6);
        C.due("who has none does not age", x.person(2, 0), 5);
        x.day(2);
        C.due("none on the other days", x.person(0, 0), 12);
        x.day(1);
        C.due("seven again", x.person(0, 0), 19);
    }

    /** "(999 at most)" */
    private static void anAgeIs999AtMost() {
        OwnBirthdays x = Checks.landOf("year 2;person 120 0;person 119 0;birthday 1 0 1;birthday 1 1 1;");
        x.day(2 * 878);
        C.due("998", x.person(0, 0), 998);
        x.day(1);
        C.due("999", x.person(0, 0), 999);
        C.due("998", x.person(1, 0), 998);
        x.day(2);
        C.due("999 still", x.person(0, 0), 999);
        C.due("999", x.person(1, 0), 999);
        x.day(9999);
        C.due("999 still", x.person(0, 0), 999);
        C.due("both vote", x.votes(999), 3);
        x.sell(0, 1, 0);
        x.day(1);
        C.due("two at once", x.person(1, 0), 999);
        OwnBirthdays y = Checks.landOf("year 2;person 118 0;" + "birthday 1 0 1;".repeat(8));
        y.day(2 * 110);
        C.due("998", y.person(0, 0), 998);
        y.day(1);
        C.due("eight at once", y.person(0, 0), 999);
    }

    private static OwnBirthdays lentFor(int n) {
        OwnBirthdays x = Checks.landOf("year 10;person 5 0;person 50 0;birthday 3 0 1;");
        x.lend(0, 1, n, 0);
        return x;
    }

    /** "LENT to somebody till the end of a day"; "LOANS till the end of TODAY are over": behind the ageing. */
    private static void aLoanIsTillTheEndOfADay() {
        int[] loan = {1, 2, 3, 4, 12, 13, 14};
        int[] hasAged = {0, 0, 1, 1, 1, 2, 2};
        for (int i = 0; i < loan.length; i++) {
            int n = loan[i];
            OwnBirthdays x = lentFor(n);
            C.due("till the end of day " + n, x.birthday(0, 4), n);
            if (n > 1) {
                x.day(n - 1);
                C.due("lent on the day ahead of " + n, x.birthday(0, 3), 1);
                C.due("till the end of day " + n + " still", x.birthday(0, 4), n);
            }
            x.day(1);
            C.due("the user has aged by day " + n, x.person(1, 0), 50 + hasAged[i]);
            C.due("lent no more on day " + n, x.birthday(0, 3), NONE);
            C.due("till none", x.birthday(0, 4), NONE);
            C.due("the user is the owner", x.birthday(0, 5), 0);
            C.due("nothing is lent", x.told(6), 0);
            x.day(20 - n);
            C.due("the owner ages behind day " + n, x.person(0, 0), 5 + 2 - hasAged[i]);
            C.due("the other does not", x.person(1, 0), 50 + hasAged[i]);
        }
    }

    /** "till the end of day TODAY and n": of another day than 0, and the longest. */
    private static void aLoanOfTheMostDays() {
        OwnBirthdays x = Checks.landOf("year 10;person 5 0;person 50 0;birthday 3 0 1;");
        x.day(9999);
        C.due("the longest", x.lend(0, 1, 9999, 0), 0);
        C.due("till", x.birthday(0, 4), 19998);
        x.day(9998);
        C.due("lent still", x.told(6), 1);
        x.day(1);
        C.due("over", x.told(6), 0);
        x.lend(0, 1, 1, 0);
        C.due("the shortest", x.birthday(0, 4), 19999);
        x.day(1);
        C.due("over", x.told(6), 0);
    }

    /** A loan that began on another day than 0 ends within the days of one call, of many, and of foretold. */
    private static void aLoanFromALaterDayOn() {
        for (int n = 1; n <= 30; n++) {
            OwnBirthdays x = Checks.landOf("year 10;person 5 0;person 50 0;birthday 3 0 1;");
            x.day(27);
            x.lend(0, 1, n, 0);
            // 0 aged on days 3, 13, 23; days 33, 43, 53 come
            int lent = (n >= 6 ? 1 : 0) + (n >= 16 ? 1 : 0) + (n >= 26 ? 1 : 0);
            C.due("from day 27 for " + n + ", till", x.birthday(0, 4), 27 + n);
            C.due("from day 27 for " + n + ", foretold", x.foretold(1, 30), 50 + lent);
            C.due("from day 27 for " + n + ", foretold", x.foretold(0, 30), 8 + 3 - lent);
            x.day(30);
            C.due("from day 27 for " + n + ", its user", x.person(1, 0), 50 + lent);
            C.due("from day 27 for " + n + ", its owner", x.person(0, 0), 8 + 3 - lent);
            C.due("from day 27 for " + n + ", over", x.told(6), 0);
        }
    }

    private static void aLoanEndsWithinTheDaysOfOneCall() {
        for (int n = 1; n <= 25; n++) {
            OwnBirthdays x = lentFor(n);
            OwnBirthdays y = lentFor(n);
            x.day(25);
            for (int i = 0; i < 25; i++) {
                y.day(1);
            }
            // days 3, 13, 23 come
            int lent = (n >= 3 ? 1 : 0) + (n >= 13 ? 1 : 0) + (n >= 23 ? 1 : 0);
            C.due("lent for " + n + ", at once", x.person(1, 0), 50 + lent);
            C.due("lent for " + n + ", at once", x.person(0, 0), 5 + 3 - lent);
            C.due("lent for " + n + ", day by day", y.person(1, 0), 50 + lent);
            C.due("lent for " + n + ", day by day", y.person(0, 0), 5 + 3 - lent);
            C.due("lent for " + n + ", over", x.told(6), 0);
        }
        OwnBirthdays z = lentFor(26);
        z.day(25);
        C.due("lent for 26", z.told(6), 1);
    }

    /** "its USER is whom it is LENT to, else its OWNER" */
    private static void theUserIsWhomItIsLentTo() {
        OwnBirthdays x = lentFor(5);
        C.due("user", x.birthday(0, 5), 1);
        C.due("owner", x.birthday(0, 1), 0);
        C.due("owned", x.person(0, 3), 1);
        C.due("not used by its owner", x.person(0, 4), 0);
        C.due("not owned by its user", x.person(1, 3), 0);
        C.due("used", x.person(1, 4), 1);
        x.day(5);
        C.due("user", x.birthday(0, 5), 0);
        C.due("used", x.person(0, 4), 1);
        C.due("not used", x.person(1, 4), 0);
    }

    private static OwnBirthdays threeOwners() {
        return Checks.landOf("year 10;person 5 20;person 50 30;person 70 0;birthday 3 0 1;birthday 4 1 1;");
    }

    private static OwnBirthdays lentByThree() {
        OwnBirthdays x = threeOwners();
        x.lend(0, 1, 5, 0);
        return x;
    }

    /** "TO SELL: a BIRTHDAY that has an OWNER and is not LENT" */
    private static void onlyWhatHasAnOwnerAndIsNotLent() {
        for (int p = 0; p < 3; p++) {
            int to = p;
            C.refused("sell what is lent to " + p, DaysBoundsTest::lentByThree, x -> x.sell(0, to, 0), NOT);
            C.refused("lend what is lent to " + p, DaysBoundsTest::lentByThree, x -> x.lend(0, to, 1, 0), NOT);
        }
        OwnBirthdays x = lentByThree();
        x.day(4);
        C.due("a day too early", x.sell(0, 2, 0), NOT);
        C.due("a day too early", x.lend(0, 2, 1, 0), NOT);
        x.day(1);
        C.due("on the day on which the loan is over", x.lend(0, 2, 1, 0), 0);
        x.day(1);
        C.due("and sold", x.sell(0, 2, 0), 0);
        C.due("owner", x.birthday(0, 1), 2);
        C.refused("sell nobody's", States::allDead, y -> y.sell(0, 1, 0), NOT);
        C.refused("lend nobody's", States::allDead, y -> y.lend(0, 1, 1, 0), NOT);
    }

    /** "becomes another PERSON's that lives" */
    private static void onlyToAnotherOneThatLives() {
        C.refused("sell its own", DaysBoundsTest::threeOwners, x -> x.sell(0, 0, 0), NOT);
        C.refused("lend its own", DaysBoundsTest::threeOwners, x -> x.lend(0, 0, 1, 0), NOT);
        Checks.Maker oneDead = () -> {
            OwnBirthdays x = threeOwners();
            x.die(2);
            return x;
        };
        C.refused("sell to the dead", oneDead, x -> x.sell(0, 2, 0), NOT);
        C.refused("lend to the dead", oneDead, x -> x.lend(0, 2, 1, 0), NOT);
        OwnBirthdays x = threeOwners();
        C.due("to another", x.sell(0, 1, 30), 0);
        C.due("and back", x.sell(0, 0, 50), 0);
        C.due("owner", x.birthday(0, 1), 0);
        C.due("purse", x.person(1, 1), 50);
    }

    /** "who pays its OWNER a sum out of its PURSE" */
    private static void thePurseHasTheSum() {
        C.refused("sell for one more than it has", DaysBoundsTest::threeOwners, x -> x.sell(1, 0, 21), NOT);
        C.refused("lend for one more than it has", DaysBoundsTest::threeOwners, x -> x.lend(1, 0, 1, 21), NOT);
        C.refused("sell to an empty purse", DaysBoundsTest::threeOwners, x -> x.sell(1, 2, 1), NOT);
        C.refused("lend to an empty purse", DaysBoundsTest::threeOwners, x -> x.lend(1, 2, 1, 1), NOT);
        int[] sums = {0, 1, 19, 20};
        for (int sum : sums) {
            OwnBirthdays x = threeOwners();
            C.due("sell for " + sum, x.sell(1, 0, sum), 20 - sum);
            C.due("left", x.person(0, 1), 20 - sum);
            C.due("paid", x.person(1, 1), 30 + sum);
            C.due("nobody else pays", x.person(2, 1), 0);
            C.due("its owner", x.birthday(1, 1), 0);
            C.due("not lent", x.birthday(1, 3), NONE);
            OwnBirthdays y = threeOwners();
            C.due("lend for " + sum, y.lend(1, 0, 1, sum), 20 - sum);
            C.due("left", y.person(0, 1), 20 - sum);
            C.due("paid", y.person(1, 1), 30 + sum);
            C.due("nobody else pays", y.person(2, 1), 0);
            C.due("its owner stays", y.birthday(1, 1), 1);
            C.due("lent", y.birthday(1, 3), 0);
        }
        OwnBirthdays x = threeOwners();
        C.due("an empty purse buys for nothing", x.sell(1, 2, 0), 0);
        C.due("and borrows for nothing", x.lend(0, 2, 1, 0), 0);
    }

    /** The bound of 999 is the text's, not the PURSE's. */
    private static void aPurseMayGrowBeyond999() {
        OwnBirthdays x = Checks.landOf("person 5 999;person 50 999;person 50 999;birthday 3 0 1;birthday 4 1 1;");
        C.due("all of a purse", x.sell(0, 1, 999), 0);
        C.due("1998", x.person(0, 1), 1998);
        C.due("999 of it", x.sell(1, 0, 999), 999);
        C.due("dies", x.die(2), 0);
        C.due("1998 again", x.person(0, 1), 1998);
        C.due("all of it", x.die(1), 0);
        C.due("2997", x.person(0, 1), 2997);
    }

    /** "its BIRTHDAYS and its PURSE become those of the youngest PERSON that lives still" */
    private static void theYoungestThatLivesHasAll() {
        OwnBirthdays x = Checks.landOf("year 10;person 8 1;person 9 2;person 7 4;person 6 8;"
            + "birthday 1 3 1;birthday 2 3 1;birthday 3 2 1;birthday 4 0 1;");
        C.due("the youngest dies: the next one has all", x.die(3), 2);
        C.due("purse", x.person(2, 1), 12);
        C.due("no purse", x.person(3, 1), 0);
        C.due("birthdays", x.person(2, 3), 7);
        C.due("none", x.person(3, 3), 0);
        C.due("lives no more", x.person(3, 2), 0);
        C.due("all of it goes on", x.die(2), 0);
        C.due("purse", x.person(0, 1), 13);
        C.due("birthdays", x.person(0, 3), 15);
        C.due("who has nothing leaves nothing", x.die(1), 0);
        C.due("purse", x.person(0, 1), 15);
        C.due("one lives", x.told(5), 1);
        // by the age of that day, not by what was told
        OwnBirthdays y = Checks.landOf("year 2;person 5 0;person 6 0;person 9 3;birthday 1 0 1;birthday 1 0 1;");
        y.day(1);
        C.due("7 and 6", y.die(2), 1);
        C.due("purse", y.person(1, 1), 3);
    }

    /** "of like ones the least" */
    private static void ofLikeOnesTheLeast() {
        OwnBirthdays x = Checks.landOf("person 7 0;person 7 0;person 7 0;person 7 0;person 7 0;person 7 0;birthday 1 0 1;");
        int[] heirs = {1, 2, 3, 4, 5, NONE};
        for (int p = 0; p < 6; p++) {
            C.due(p + " dies", x.die(p), heirs[p]);
            C.due("owner behind " + p, x.birthday(0, 1), heirs[p]);
        }
        x.begin();
        for (int p = 5; p > 0; p--) {
            C.due(p + " dies", x.die(p), 0);
        }
    }

    /** "LOANS to it are over" */
    private static void loansToTheDeadAreOver() {
        OwnBirthdays x = Checks.landOf("year 10;person 8 0;person 9 0;person 7 0;birthday 3 0 1;birthday 3 0 1;");
        x.lend(0, 1, 50, 0);
        x.lend(1, 2, 50, 0);
        C.due("heir", x.die(1), 2);
        C.due("lent no more", x.birthday(0, 3), NONE);
        C.due("till none", x.birthday(0, 4), NONE);
        C.due("its owner stays", x.birthday(0, 1), 0);
        C.due("its owner is its user", x.birthday(0, 5), 0);
        C.due("another loan stays", x.told(6), 2);
        x.day(3);
        C.due("the owner ages", x.person(0, 0), 9);
        C.due("the dead does not", x.person(1, 0), 9);
    }

    /** "a LOAN of one of them to that PERSON is over" */
    private static void aLoanToTheHeirIsOver() {
        OwnBirthdays x = Checks.landOf("year 10;person 8 0;person 9 0;person 7 0;birthday 3 0 1;birthday 3 0 1;birthday 3 1 1;");
        x.lend(0, 2, 50, 0);
        x.lend(1, 1, 50, 0);
        x.lend(2, 2, 50, 0);
        C.due("heir", x.die(0), 2);
        C.due("lent to the heir: over", x.birthday(0, 3), NONE);
        C.due("till none", x.birthday(0, 4), NONE);
        C.due("the heir's", x.birthday(0, 1), 2);
        C.due("lent to another one: stays", x.birthday(1, 3), 1);
        C.due("till", x.birthday(1, 4), 50);
        C.due("the heir's", x.birthday(1, 1), 2);
        C.due("another's, lent to the heir: stays", x.birthday(2, 3), 2);
        C.due("another's", x.birthday(2, 1), 1);
        C.due("may be lent at once", x.lend(0, 1, 1, 0), 0);
    }

    private static void otherLoansStay() {
        OwnBirthdays x = Checks.landOf("year 10;person 8 0;person 9 0;person 7 0;person 99 0;birthday 3 0 1;");
        x.lend(0, 1, 50, 0);
        C.due("neither of them", x.die(3), 2);
        C.due("stays", x.birthday(0, 3), 1);
        x.day(50);
        C.due("ends in its time", x.birthday(0, 3), NONE);
        C.due("five times", x.person(1, 0), 14);
    }

    /** "without any they are nobody's, the PURSE is empty" */
    private static void withoutAnyTheyAreNobodys() {
        OwnBirthdays x = Checks.landOf("year 10;person 8 7;birthday 3 0 1;birthday 5 0 9;");
        C.due("nobody", x.die(0), NONE);
        C.due("purse", x.person(0, 1), 0);
        C.due("nobody lives", x.told(5), 0);
        C.due("owns nothing", x.person(0, 3), 0);
        C.due("uses nothing", x.person(0, 4), 0);
        for (int b = 0; b < 2; b++) {
            C.due("owner", x.birthday(b, 1), NONE);
            C.due("user", x.birthday(b, 5), NONE);
            C.due("lent to", x.birthday(b, 3), NONE);
            C.due("till", x.birthday(b, 4), NONE);
        }
        C.due("it comes all the same", x.birthday(1, 6), 5);
        C.due("season", x.birthday(1, 7), 9 + 9 * 5 / 10);
        C.due("days go by", x.day(100), 100);
        C.due("nobody ages", x.person(0, 0), 8);
        OwnBirthdays y = Checks.landOf("year 10;person 8 7;person 9 7;birthday 3 0 1;birthday 5 1 9;");
        y.lend(0, 1, 90, 1);
        y.lend(1, 0, 90, 2);
        C.due("the first", y.die(0), 1);
        C.due("no loan is left", y.told(6), 0);
        C.due("the last", y.die(1), NONE);
        C.due("purse", y.person(1, 1), 0);
        C.due("owner", y.birthday(0, 1), NONE);
    }

    /** "The dead do not age, buy, borrow." */
    private static void theDeadDoNotAgeBuyBorrow() {
        OwnBirthdays x = Checks.landOf("year 10;person 8 7;person 3 9;birthday 3 0 1;birthday 5 1 9;");
        x.die(0);
        C.due("buy", x.sell(1, 0, 0), NOT);
        C.due("borrow", x.lend(1, 0, 1, 0), NOT);
        x.day(9999);
        C.due("age", x.person(0, 0), 8);
        C.due("foretold", x.foretold(0, 99999), 8);
        C.due("the heir ages by both", x.person(1, 0), 999);
        C.due("does not inherit", x.die(1), NONE);
        C.due("purse", x.person(0, 1), 0);
    }

    /** "TILL of a BIRTHDAY: days from TODAY till it comes next (1 to N)." */
    private static void tillIs1ToN() {
        int[] years = {2, 3, 12, 60};
        for (int n : years) {
            OwnBirthdays x = Checks.landOf("year " + n + ";person 1 1;birthday 0 0 1;birthday 1 0 1;birthday " + (n - 1) + " 0 1;");
            C.due("day 0 of " + n + " on day 0", x.birthday(0, 6), n);
            C.due("day 1 of " + n + " on day 0", x.birthday(1, 6), 1);
            C.due("the last of " + n + " on day 0", x.birthday(2, 6), n - 1);
            x.day(1);
            C.due("day 1 of " + n + " on day 1", x.birthday(1, 6), n);
            C.due("day 0 of " + n + " on day 1", x.birthday(0, 6), n - 1);
            x.day(n - 1);
            C.due("day 0 of " + n + " on day N", x.birthday(0, 6), n);
            x.day(n - 1);
            C.due("day 0 of " + n + " a day ahead", x.birthday(0, 6), 1);
            C.due("the last of " + n + " on it", x.birthday(2, 6), n);
        }
    }

    /** "SEASON: C and C times (N less TILL) / N." */
    private static void seasonByTill() {
        OwnBirthdays x = Checks.landOf("year 2;person 1 1;birthday 0 0 99;birthday 1 0 99;birthday 1 0 1;birthday 1 0 2;birthday 1 0 3;");
        C.due("in a year", x.birthday(0, 7), 99);
        C.due("in a day", x.birthday(1, 7), 99 + 49);
        C.due("1", x.birthday(2, 7), 1);
        C.due("2", x.birthday(3, 7), 3);
        C.due("3", x.birthday(4, 7), 4);
        OwnBirthdays y = Checks.landOf("year 60;person 1 1;birthday 0 0 60;");
        for (int t = 0; t <= 61; t++) {
            C.due("on day " + t, y.birthday(0, 7), 60 + t % 60);
            y.day(1);
        }
    }
}
