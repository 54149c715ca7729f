/** The document's "Terms": numbers, SETS, the order of the refusals, and that what is refused changes nothing. */
public final class TermsBoundsTest {
    private static final Checks C = new Checks("TermsBoundsTest");
    private static final int NONE = Checks.NONE;
    private static final int UNKNOWN = Checks.UNKNOWN;
    private static final int OUTSIDE = Checks.OUTSIDE;
    private static final int NOT = Checks.NOT;
    private static final int FULL = Checks.FULL;

    public static void main(String[] args) {
        theStateOfTheTests();
        divisionCutsTowardsZero();
        numbersFromZeroOnAsTheyCome();
        aSetHasBitKForK();
        refusalsAreFarBelowAllThatIsCounted();
        unknownAheadOfOutside();
        unknownAheadOfNot();
        unknownAheadOfFull();
        outsideAheadOfNot();
        outsideAheadOfFull();
        outsideAheadOfNone();
        whatIsNotChangesNothing();
        whatIsFullChangesNothing();
        whatIsAnsweredWithNoneChangesNothing();
        whatIsOnlyLookedAtChangesNothing();
        theCallsOfOneObject();
        C.end();
    }

    /** The tests of refusals are worth something only if there is something of each kind to change. */
    private static void theStateOfTheTests() {
        OwnBirthdays x = States.lively();
        int[] told = {10, 4, 5, 8, 4, 7, 1, 3};
        for (int what = 0; what < 8; what++) {
            C.due("lively: told " + what, x.told(what), told[what]);
        }
        int[] age = {18, 30, 12, 40};
        int[] purse = {45, 108, 9, 0};
        int[] owned = {3, 4, 24, 0};
        int[] used = {2, 4, 25, 0};
        for (int p = 0; p < 4; p++) {
            C.due("lively: age of " + p, x.person(p, 0), age[p]);
            C.due("lively: purse of " + p, x.person(p, 1), purse[p]);
            C.due("lively: owned by " + p, x.person(p, 3), owned[p]);
            C.due("lively: used by " + p, x.person(p, 4), used[p]);
        }
        C.due("lively: till", x.birthday(0, 4), 13);
        C.due("lively: fault", x.fault(), 11);
        C.due("lively: judge", x.judge(), 1);
        C.due("lively: forged", x.forged(), 4);
        C.due("lively: seed", x.seed(4), 4);
        C.due("lively: image 1", x.goBack(1), NOT);
        C.due("lively: image 0", x.goBack(0), 1);
        C.due("lively: day of image 0", x.told(4), 2);
        C.due("full ages", States.fullAges().told(7), 20);
        C.due("full text", States.fullText().told(3), 500);
        C.due("all dead", States.allDead().told(5), 0);
        C.due("crowded: all live", States.crowded().told(5), 63);
        C.due("crowded: birthdays", States.crowded().told(2), 8);
    }

    /** "All numbers are whole; / cuts towards 0." */
    private static void divisionCutsTowardsZero() {
        OwnBirthdays x = Checks.landOf("year 60;person 0 0;birthday 1 0 99;birthday 1 0 1;birthday 59 0 30;birthday 58 0 30;birthday 0 0 99;");
        C.due("99 and 97.35", x.birthday(0, 7), 196);
        C.due("1 and 0.98", x.birthday(1, 7), 1);
        C.due("30 and 0.5", x.birthday(2, 7), 30);
        C.due("30 and 1", x.birthday(3, 7), 31);
        C.due("99 and 0", x.birthday(4, 7), 99);
    }

    /** "What has a number has it from 0 on, as it comes." */
    private static void numbersFromZeroOnAsTheyCome() {
        OwnBirthdays x = Checks.landOf("person 7 1;birthday 3 0 4;person 8 2;birthday 5 1 6;");
        C.due("the first person", x.person(0, 0), 7);
        C.due("the second person", x.person(1, 0), 8);
        C.due("no third", x.person(2, 0), UNKNOWN);
        C.due("none ahead of the first", x.person(-1, 0), UNKNOWN);
        C.due("the first birthday", x.birthday(0, 0), 3);
        C.due("the second birthday", x.birthday(1, 0), 5);
        C.due("no third", x.birthday(2, 0), UNKNOWN);
        C.due("none ahead of the first", x.birthday(-1, 0), UNKNOWN);
        x.tell(0, 0, 99);
        x.tell(1, 0, 8);
        C.due("the first told age", x.judge(), 0);
    }

    /** "A SET is a whole number, bit k for k." */
    private static void aSetHasBitKForK() {
        OwnBirthdays x = States.crowded();
        C.due("all six", x.told(5), 63);
        C.due("all six vote", x.votes(0), 63);
        C.due("all eight owned", x.person(5, 3), 255);
        C.due("none owned", x.person(0, 3), 0);
        C.due("all eight forged", x.forged(), 255);
        C.due("the eighth alone comes", x.coin(0, 8, 8, 1), 255);
        for (int b = 0; b < 8; b++) {
            x.lend(b, b % 5, 100, 0);
        }
        C.due("all eight lent", x.told(6), 255);
        C.due("0 and 5 used", x.person(0, 4), 33);
        C.due("2 and 7 used", x.person(2, 4), 132);
        C.due("none used", x.person(5, 4), 0);
        x.die(0);
        C.due("all but the first", x.told(5), 62);
        x.die(5);
        C.due("all but the first and the last", x.told(5), 30);
        C.due("they vote", x.votes(0), 30);
    }

    /** "They are far below all that is counted: -1000000001 and on." */
    private static void refusalsAreFarBelowAllThatIsCounted() {
        C.due("NONE", OwnBirthdays.NONE, -1);
        C.due("UNKNOWN", OwnBirthdays.UNKNOWN, -1000000001);
        C.due("OUTSIDE", OwnBirthdays.OUTSIDE, -1000000002);
        C.due("NOT", OwnBirthdays.NOT, -1000000003);
        C.due("FULL", OwnBirthdays.FULL, -1000000004);
    }

    private static void unknownAheadOfOutside() {
        Checks.Maker lively = States::lively;
        C.refused("person", lively, x -> x.person(4, 5), UNKNOWN);
        C.refused("birthday", lively, x -> x.birthday(5, 8), UNKNOWN);
        C.refused("sell, no birthday", lively, x -> x.sell(5, 0, 1000), UNKNOWN);
        C.refused("sell, no person", lively, x -> x.sell(1, 4, -1), UNKNOWN);
        C.refused("lend, no birthday, n", lively, x -> x.lend(-1, 0, 0, 0), UNKNOWN);
        C.refused("lend, no person, n", lively, x -> x.lend(1, -1, 10000, 0), UNKNOWN);
        C.refused("lend, no birthday, sum", lively, x -> x.lend(5, 0, 1, 1000), UNKNOWN);
        C.refused("lend, no person, sum", lively, x -> x.lend(1, 4, 1, -1), UNKNOWN);
        C.refused("foretold", lively, x -> x.foretold(4, -1), UNKNOWN);
        C.refused("coin, v", lively, x -> x.coin(4, 1000, 1, 0), UNKNOWN);
        C.refused("coin, n", lively, x -> x.coin(-1, 0, 0, 0), UNKNOWN);
        C.refused("coin, what", lively, x -> x.coin(4, 0, 1, 2), UNKNOWN);
        C.refused("life", lively, x -> x.life(4, 61, 0), UNKNOWN);
        C.refused("given, k", lively, x -> x.given(7, 0, 1, 5), UNKNOWN);
        C.refused("given, v", lively, x -> x.given(0, -1, 1, -2), UNKNOWN);
        C.refused("given, n", lively, x -> x.given(0, 0, 0, 5), UNKNOWN);
        C.refused("tell, n", lively, x -> x.tell(4, 10000, 0), UNKNOWN);
        C.refused("tell, age", lively, x -> x.tell(-1, 0, 1000), UNKNOWN);
    }

    private static void unknownAheadOfNot() {
        C.refused("sell to nobody what is lent", States::lively, x -> x.sell(0, 4, 0), UNKNOWN);
        C.refused("sell to the dead what is not there", States::lively, x -> x.sell(5, 3, 0), UNKNOWN);
        C.refused("lend to nobody what is lent", States::lively, x -> x.lend(0, 4, 1, 0), UNKNOWN);
        C.refused("lend to the dead what is not there", States::lively, x -> x.lend(5, 3, 1, 0), UNKNOWN);
        C.refused("given, nobody lives", States::allDead, x -> x.given(0, 0, 1, 5), UNKNOWN);
        C.refused("goBack to what could not be kept", States::lively, x -> x.goBack(2), UNKNOWN);
        C.refused("given without a land", OwnBirthdays::new, x -> x.given(0, 0, 1, 0), UNKNOWN);
    }

    private static void unknownAheadOfFull() {
        C.refused("a 21st told age of nobody", States::fullAges, x -> x.tell(4, 0, 0), UNKNOWN);
        C.refused("a 21st told age of nobody", States::fullAges, x -> x.tell(-1, 0, 0), UNKNOWN);
    }

    private static void outsideAheadOfNot() {
        Checks.Maker lively = States::lively;
        C.refused("sell what is lent", lively, x -> x.sell(0, 1, 1000), OUTSIDE);
        C.refused("sell its own", lively, x -> x.sell(1, 0, -1), OUTSIDE);
        C.refused("sell to the dead", lively, x -> x.sell(1, 3, 1000), OUTSIDE);
        C.refused("sell nobody's", States::allDead, x -> x.sell(1, 0, -1), OUTSIDE);
        C.refused("lend what is lent", lively, x -> x.lend(0, 1, 0, 0), OUTSIDE);
        C.refused("lend what is lent", lively, x -> x.lend(0, 1, 1, 1000), OUTSIDE);
        C.refused("lend its own", lively, x -> x.lend(1, 0, 10000, 0), OUTSIDE);
        C.refused("lend to the dead", lively, x -> x.lend(1, 3, 1, -1), OUTSIDE);
        C.refused("coin of the dead, v", lively, x -> x.coin(3, 1000, 1, 0), OUTSIDE);
        C.refused("coin of the dead, n", lively, x -> x.coin(3, 0, 0, 0), OUTSIDE);
        C.refused("coin of the dead, what", lively, x -> x.coin(3, 0, 1, 2), OUTSIDE);
        C.refused("given, nobody lives, k", States::allDead, x -> x.given(7, 0, 1, 0), OUTSIDE);
        C.refused("given, nobody lives, v", States::allDead, x -> x.given(0, 1000, 1, NONE), OUTSIDE);
        C.refused("given, nobody lives, n", States::allDead, x -> x.given(0, 0, 10000, 0), OUTSIDE);
        C.refused("drift without persons", OwnBirthdays::new, x -> x.drift(0), OUTSIDE);
        C.refused("drift without persons", OwnBirthdays::new, x -> x.drift(1000), OUTSIDE);
    }

    private static void outsideAheadOfFull() {
        C.refused("feed 9 of a full text", States::fullText, x -> x.feed(9, 0), OUTSIDE);
        C.refused("feed 0 of a full text", States::fullText, x -> x.feed(0, 0), OUTSIDE);
        C.refused("a 21st told age, n", States::fullAges, x -> x.tell(0, 10000, 0), OUTSIDE);
        C.refused("a 21st told age, age", States::fullAges, x -> x.tell(0, 0, 1000), OUTSIDE);
    }

    /** NONE is an answer: a refusal comes ahead of it. */
    private static void outsideAheadOfNone() {
        C.refused("life, not so many years", States::lively, x -> x.life(0, 0, 5), OUTSIDE);
        C.refused("life, i below -1", States::lively, x -> x.life(0, 61, -2), OUTSIDE);
    }

    private static void whatIsNotChangesNothing() {
        Checks.Maker lively = States::lively;
        C.refused("sell what is lent", lively, x -> x.sell(0, 1, 0), NOT);
        C.refused("sell what is lent to its user", lively, x -> x.sell(0, 2, 0), NOT);
        C.refused("sell its own", lively, x -> x.sell(1, 0, 0), NOT);
        C.refused("sell for more than the purse has", lively, x -> x.sell(1, 2, 10), NOT);
        C.refused("sell to the dead", lively, x -> x.sell(1, 3, 0), NOT);
        C.refused("sell nobody's", States::allDead, x -> x.sell(1, 0, 0), NOT);
        C.refused("lend what is lent", lively, x -> x.lend(0, 1, 1, 0), NOT);
        C.refused("lend what is lent to its user", lively, x -> x.lend(0, 2, 99, 0), NOT);
        C.refused("lend its own", lively, x -> x.lend(1, 0, 1, 0), NOT);
        C.refused("lend for more than the purse has", lively, x -> x.lend(1, 2, 1, 10), NOT);
        C.refused("lend to the dead", lively, x -> x.lend(1, 3, 1, 0), NOT);
        C.refused("lend nobody's", States::allDead, x -> x.lend(1, 0, 1, 0), NOT);
        C.refused("die again", lively, x -> x.die(3), NOT);
        C.refused("die again when nobody lives", States::allDead, x -> x.die(0), NOT);
        C.refused("coin of the dead", lively, x -> x.coin(3, 0, 1, 0), NOT);
        C.refused("given, nobody lives", States::allDead, x -> x.given(0, 0, 1, NONE), NOT);
        C.refused("given, nobody lives", States::allDead, x -> x.given(0, 0, 1, 4), NOT);
        C.refused("given without a land", OwnBirthdays::new, x -> x.given(0, 0, 1, NONE), NOT);
        C.refused("drift without persons", OwnBirthdays::new, x -> x.drift(1), NOT);
        C.refused("goBack to what was not kept", lively, x -> x.goBack(1), NOT);
    }

    private static void whatIsFullChangesNothing() {
        C.refused("a byte more", States::fullText, x -> x.feed(1, 0x3b), FULL);
        C.refused("eight bytes more", States::fullText, x -> x.feed(8, 0x3b), FULL);
        C.refused("a 21st told age", States::fullAges, x -> x.tell(0, 0, 18), FULL);
    }

    private static void whatIsAnsweredWithNoneChangesNothing() {
        Checks.Maker lively = States::lively;
        C.looks("coin", lively, x -> x.coin(0, 999, 1, 0), NONE);
        C.looks("coin, the set", lively, x -> x.coin(0, 999, 1, 1), NONE);
        C.looks("life", lively, x -> x.life(0, 5, 5), NONE);
        C.looks("given", lively, x -> x.given(4, 0, 1, NONE), NONE);
        C.looks("given, a birthday", lively, x -> x.given(4, 0, 1, 0), NONE);
        C.looks("judge without told ages", States::crowded, x -> x.judge(), NONE);
    }

    /** What is told, tried or judged is not done. */
    private static void whatIsOnlyLookedAtChangesNothing() {
        Checks.Maker lively = States::lively;
        C.looks("fault", lively, x -> x.fault(), 11);
        C.looks("told", lively, x -> x.told(7), 3);
        C.looks("person", lively, x -> x.person(2, 4), 25);
        C.looks("birthday", lively, x -> x.birthday(0, 6), 9);
        C.looks("good", lively, x -> x.good(18), 5);
        C.looks("foretold", lively, x -> x.foretold(0, 99999), 999);
        C.looks("coin", lively, x -> x.coin(0, 2, 3, 1), 4);
        C.looks("life", lively, x -> x.life(0, 2, NONE), 53);
        C.looks("votes", lively, x -> x.votes(18), 3);
        C.looks("given", lively, x -> x.given(3, 13, 1, NONE), 0);
        C.looks("given, a birthday", lively, x -> x.given(3, 13, 1, 4), 2);
        // 0 is 18 and owns two: the second is worth 50 less 3 to it; 1 is 30 and owns one, worth 9
        C.looks("rests", lively, x -> x.rests(NONE), 0);
        C.looks("rests, a birthday", lively, x -> x.rests(2), 1);
        C.looks("judge", lively, x -> x.judge(), 1);
        C.looks("forged", lively, x -> x.forged(), 4);
    }

    /** "An object is used for at most 512 calls after it has been made": the last of them is answered as the first. */
    private static void theCallsOfOneObject() {
        OwnBirthdays x = new OwnBirthdays();
        C.due("call 1", x.feed(8, 0x706572736f6e2031L), 8);
        C.due("call 2", x.feed(8, 0x20393b6269727468L), 16);
        C.due("call 3", x.feed(8, 0x6461792030203020L), 24);
        C.due("call 4", x.feed(2, 0x313bL), 26);
        C.due("call 5", x.land(), 1);
        for (int call = 6; call <= 509; call++) {
            C.due("call " + call, x.day(9999), 9999 * (call - 5));
        }
        // day 5039496 is day 0 of a year of 12: it comes next in 12 days
        C.due("call 510", x.birthday(0, 6), 12);
        C.due("call 511", x.person(0, 0), 999);
        C.due("call 512", x.told(4), 5039496);
    }
}
