/** Promises 1 to 8: the land. */
public final class LandTest {
    private static final Checks C = new Checks("LandTest");

    public static void main(String[] args) {
        newObject();
        feeding();
        landing();
        landKeepsWhatItShould();
        faultsOfForm();
        faultsAtTheLastByte();
        faultsOfNumbers();
        faultsOfCounts();
        tellingAll();
        personsAndBirthdays();
        goods();
        C.end();
    }

    private static void newObject() {
        OwnBirthdays x = new OwnBirthdays();
        int[] due = {12, 0, 0, 0, 0, 0, 0, 0};
        for (int what = 0; what < due.length; what++) {
            C.due("new told(" + what + ")", x.told(what), due[what]);
        }
        C.due("new fault()", x.fault(), Checks.NONE);
        C.due("new person", x.person(0, 0), Checks.UNKNOWN);
        C.due("new birthday", x.birthday(0, 0), Checks.UNKNOWN);
        C.due("new good", x.good(5), 0);
        C.due("new seed", x.seed(0), 0);
        C.due("new goBack", x.goBack(0), Checks.NOT);
    }

    private static void feeding() {
        OwnBirthdays x = new OwnBirthdays();
        C.due("feed 0", x.feed(0, 0), Checks.OUTSIDE);
        C.due("feed 9", x.feed(9, 0), Checks.OUTSIDE);
        C.due("feed -1", x.feed(-1, 0), Checks.OUTSIDE);
        C.due("nothing came", x.told(3), 0);
        // the bytes above the lowest n are not looked at
        C.due("feed 6", x.feed(6, 0x7f7f_7965_6172_2037L), 6);
        C.due("feed 1", x.feed(1, 0xffff_ffff_ffff_ff3bL), 7);
        C.due("land", x.land(), 0);
        C.due("year 7", x.told(0), 7);
        C.due("the text is empty", x.told(3), 0);
        for (int i = 1; i <= 62; i++) {
            C.due("feed " + i, x.feed(8, 0x2020202020202020L), 8 * i);
        }
        C.due("five more", x.feed(5, 0x2020202020L), Checks.FULL);
        C.due("eight more", x.feed(8, 0x2020202020L), Checks.FULL);
        C.due("OUTSIDE ahead of FULL", x.feed(9, 0x2020202020L), Checks.OUTSIDE);
        C.due("as it was", x.told(3), 496);
        C.due("four more", x.feed(4, 0x20202020L), 500);
        C.due("one more", x.feed(1, 0x20L), Checks.FULL);
        C.due("blanks alone", x.land(), 0);
        C.due("usual year", x.told(0), 12);
        C.due("room again", x.feed(1, 0x20L), 1);
    }

    private static void landing() {
        OwnBirthdays x = new OwnBirthdays();
        C.due("empty", x.land(), 0);
        C.due("no fault", x.fault(), Checks.NONE);
        C.due("no needless blanks", Checks.tell(x, "year9;person1 2;birthday8 0 3;good4 5;"), 1);
        C.due("year", x.told(0), 9);
        C.due("day", x.birthday(0, 0), 8);
        C.due("good", x.good(4), 5);
        C.due("many blanks", Checks.tell(x, "  year   9  ;  person  007   09 ;  ; "), -11);
        C.due("an empty clause", x.fault(), 35);
        C.due("many blanks", Checks.tell(x, "  year   9  ;  person  007   09 ;   "), 1);
        C.due("age", x.person(0, 0), 7);
        C.due("no fault then", x.fault(), Checks.NONE);
        C.due("six", Checks.tell(x, "person 0 0;person 0 0;person 0 0;person 0 0;person 0 0;person 120 999;"), 6);
        C.due("the sixth", x.person(5, 1), 999);
        C.due("year stays not", x.told(0), 12);
        C.due("year 2", Checks.tell(x, "year 2;"), 0);
        C.due("year 60", Checks.tell(x, "year 60;"), 0);
        C.due("told", x.told(0), 60);
        C.due("usual", Checks.tell(x, "person 3 3;birthday 11 0 99;"), 1);
        C.due("no goods but the new ones", Checks.tell(x, "good 8 8;"), 0);
        C.due("no goods but the new ones", Checks.tell(x, "good 9 9;"), 0);
        C.due("gone", x.good(8), 0);
        C.due("there", x.good(9), 9);
    }

    private static void landKeepsWhatItShould() {
        OwnBirthdays x = Checks.landOf("year 5;person 10 50;person 20 60;birthday 1 0 9;birthday 2 1 9;");
        x.seed(77);
        x.day(3);
        x.lend(0, 1, 30, 5);
        x.tell(0, 1, 1);
        x.keep(0);
        C.due("a fault", Checks.tell(x, "person 1 1;person 5;"), -11);
        C.due("at", x.fault(), 19);
        C.due("text empty", x.told(3), 0);
        C.due("persons stay", x.told(1), 2);
        C.due("year stays", x.told(0), 5);
        C.due("today stays", x.told(4), 3);
        C.due("loans stay", x.told(6), 1);
        C.due("told ages stay", x.told(7), 1);
        C.due("images stay", x.goBack(0), 1);
        x.die(1);
        x.lend(0, 1, 1, 0);
        C.due("a land", Checks.tell(x, "person 1 2;person 3 4;person 5 6;birthday 3 2 7;"), 3);
        C.due("year", x.told(0), 12);
        C.due("birthdays", x.told(2), 1);
        C.due("today 0", x.told(4), 0);
        C.due("all live", x.told(5), 7);
        C.due("nothing lent", x.told(6), 0);
        C.due("no told ages", x.told(7), 0);
        C.due("images gone", x.goBack(0), Checks.NOT);
        C.due("the seed stays", x.seed(1), 77);
        C.due("owner", x.birthday(0, 1), 2);
    }

    private static void fault(String text, int number, int place) {
        OwnBirthdays x = new OwnBirthdays();
        C.due("land of '" + text + "'", Checks.tell(x, text), -10 - number);
        C.due("fault of '" + text + "'", x.fault(), place);
        C.due("text behind '" + text + "'", x.told(3), 0);
    }

    private static void faultsOfForm() {
        fault("y", 1, 0);
        fault("  cake 1;", 1, 2);
        fault("yearn 5;", 1, 0);
        fault("yea 5;", 1, 0);
        fault("Year 5;", 1, 0);
        fault("yEar 5;", 1, 0);
        fault("year five;", 1, 5);
        fault("year 5", 1, 6);
        fault("year 5   ", 1, 9);
        fault("year", 1, 4);
        fault("year ;", 1, 5);
        fault("year 5 5;", 1, 7);
        fault("year 5 5000;", 1, 7);
        fault("year -5;", 1, 5);
        fault("year 5,", 1, 6);
        fault("year\t5;", 1, 4);
        fault("year 5;\n", 1, 7);
        fault("year" + (char) 0 + "5;", 1, 4);
        fault("year " + (char) 233 + "5;", 1, 5);
        fault(";", 1, 0);
        fault("5", 1, 0);
        fault("person 1 1;;", 1, 11);
        fault("person 1 1person 1 1;", 1, 10);
        fault("person 12person 1;", 1, 9);
        fault("person 1;", 1, 8);
        fault("person person 1 1;", 1, 7);
        fault("per son 1 1;", 1, 0);
        fault("person 1 1;year 5;", 1, 11);
        fault("good 1 1; year 5;", 1, 10);
        fault("year 5;person 1 1;year 5;", 1, 18);
        fault("person 1 1;years 5;", 1, 11);
        fault("good 1 1 1;", 1, 9);
        fault("person 1 1;birthday 1 0;", 1, 23);
        fault("person 1 1;birthday 1 0 1 1;", 1, 26);
    }

    private static void faultsAtTheLastByte() {
        String[] open = {"person 1 1;person", "person 1 1;person 1", "person 1 1;person 1 1", "person 1 1;person 1 1 "};
        for (String text : open) {
            fault(" ".repeat(500 - text.length()) + text, 1, 500);
        }
        fault(" ".repeat(494) + "person", 1, 500);
        fault(" ".repeat(497) + "per", 1, 497);
        fault(" ".repeat(499) + "5", 1, 499);
        fault("person 1 1;".repeat(5) + " ".repeat(434) + "person 1000", 2, 500 - 4);
        C.due("500 bytes", Checks.tell(new OwnBirthdays(), " ".repeat(489) + "person 1 1;"), 1);
    }

    private static void faultsOfNumbers() {
        fault("year 1;", 2, 5);
        fault("year 61;", 2, 5);
        fault("year 0012;", 2, 5);
        fault("year 4294967301;", 2, 5);
        fault("year 61", 2, 5);
        fault("person 121 1;", 2, 7);
        fault("person 1 1000;", 2, 9);
        fault("person 1  99999999999999999999;", 2, 10);
        fault("person 1 1;birthday 12 0 1;", 2, 20);
        fault("year 13;person 1 1;birthday 13 0 1;", 2, 28);
        fault("person 1 1;birthday 11 1 1;", 2, 23);
        fault("birthday 11 0 1;", 2, 12);
        fault("person 1 1;birthday 11 0 0;", 2, 25);
        fault("person 1 1;birthday 11 0 100;", 2, 25);
        fault("good 121 1;", 2, 5);
        fault("good 120 100;", 2, 9);
        fault("good 1 1;good 0001 1;", 2, 14);
    }

    private static void faultsOfCounts() {
        fault("year 5;year 5;", 3, 7);
        fault("year 5; year", 3, 8);
        StringBuilder six = new StringBuilder();
        for (int i = 0; i < 6; i++) {
            six.append("person 1 1;");
        }
        fault(six + "person 1 1;", 3, 66);
        fault(six + "person", 3, 66);
        StringBuilder eight = new StringBuilder("person 1 1;");
        for (int i = 0; i < 8; i++) {
            eight.append("birthday 1 0 1;");
        }
        C.due("eight", Checks.tell(new OwnBirthdays(), eight.toString()), 1);
        fault(eight + "birthday 1 0 1;", 3, 131);
        StringBuilder ten = new StringBuilder();
        for (int i = 0; i < 10; i++) {
            ten.append("good ").append(i).append(" 1;");
        }
        C.due("ten", Checks.tell(new OwnBirthdays(), ten.toString()), 0);
        fault(ten + "good 1 1;", 3, 90);
        fault("good 1 1;good 1 1;", 4, 14);
        fault("good 1 0;good 01 x;", 4, 14);
        fault("good 10 1;good 1 1;good 010 1;", 4, 24);
    }

    private static void tellingAll() {
        OwnBirthdays x = Checks.landOf("year 5;person 10 50;person 20 60;birthday 1 0 9;birthday 2 1 9;birthday 4 1 9;");
        x.feed(3, 0);
        x.day(2);
        x.lend(2, 0, 2, 0);
        x.tell(1, 1, 1);
        x.tell(1, 1, 1);
        int[] due = {5, 2, 3, 3, 2, 3, 4, 2};
        for (int what = 0; what < due.length; what++) {
            C.due("told(" + what + ")", x.told(what), due[what]);
        }
        C.due("told(-1)", x.told(-1), Checks.OUTSIDE);
        C.due("told(8)", x.told(8), Checks.OUTSIDE);
        x.die(0);
        C.due("who lives", x.told(5), 2);
        C.due("no loan to the dead", x.told(6), 0);
    }

    private static void personsAndBirthdays() {
        OwnBirthdays x = Checks.landOf("year 10;person 10 50;person 20 60;birthday 1 0 15;birthday 5 1 9;birthday 5 0 7;");
        x.day(5);
        x.lend(0, 1, 4, 20);
        int[] first = {11 + 1, 70, 1, 5, 4};
        int[] second = {21, 40, 1, 2, 3};
        for (int what = 0; what < 5; what++) {
            C.due("person(0, " + what + ")", x.person(0, what), first[what]);
            C.due("person(1, " + what + ")", x.person(1, what), second[what]);
        }
        C.due("person(2, 0)", x.person(2, 0), Checks.UNKNOWN);
        C.due("person(-1, 9)", x.person(-1, 9), Checks.UNKNOWN);
        C.due("person(0, 5)", x.person(0, 5), Checks.OUTSIDE);
        C.due("person(0, -1)", x.person(0, -1), Checks.OUTSIDE);
        int[] lent = {1, 0, 15, 1, 9, 1, 6, 15 + 15 * 4 / 10};
        int[] unlent = {5, 1, 9, -1, -1, 1, 10, 9};
        for (int what = 0; what < 8; what++) {
            C.due("birthday(0, " + what + ")", x.birthday(0, what), lent[what]);
            C.due("birthday(1, " + what + ")", x.birthday(1, what), unlent[what]);
        }
        C.due("birthday(3, 9)", x.birthday(3, 9), Checks.UNKNOWN);
        C.due("birthday(-1, 0)", x.birthday(-1, 0), Checks.UNKNOWN);
        C.due("birthday(0, 8)", x.birthday(0, 8), Checks.OUTSIDE);
        C.due("birthday(0, -1)", x.birthday(0, -1), Checks.OUTSIDE);
        x.day(5);
        C.due("the loan is over", x.birthday(0, 4), Checks.NONE);
        C.due("dearest a day ahead", x.birthday(0, 7), 15 + 15 * 9 / 10);
        x.die(1);
        C.due("dead", x.person(1, 2), 0);
        C.due("dead, no purse", x.person(1, 1), 0);
        x.die(0);
        C.due("nobody's", x.birthday(0, 1), Checks.NONE);
        C.due("nobody uses it", x.birthday(0, 5), Checks.NONE);
        C.due("its season stays", x.birthday(0, 7), 28);
    }

    private static void goods() {
        OwnBirthdays x = Checks.landOf("good 0 99;good 120 7;good 5 0;");
        C.due("good(0)", x.good(0), 99);
        C.due("good(120)", x.good(120), 7);
        C.due("good(5)", x.good(5), 0);
        C.due("good(6)", x.good(6), 0);
        C.due("good(121)", x.good(121), 0);
        C.due("good(999)", x.good(999), 0);
        C.due("good(1000)", x.good(1000), Checks.OUTSIDE);
        C.due("good(-1)", x.good(-1), Checks.OUTSIDE);
    }
}
