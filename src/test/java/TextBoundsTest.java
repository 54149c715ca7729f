/** The document's section 1: each sentence on THE TEXT that names a bound. */
public final class TextBoundsTest {
    private static final Checks C = new Checks("TextBoundsTest");
    private static final String SIX = "person 1 1;".repeat(6);
    private static final String EIGHT = "person 1 1;" + "birthday 1 0 1;".repeat(8);
    private static final String TEN = "good 0 1;good 1 1;good 2 1;good 3 1;good 4 1;good 5 1;good 6 1;good 7 1;good 8 1;good 9 1;";

    public static void main(String[] args) {
        atMost500Bytes();
        aYearHas2To60Days();
        aYearUntoldHas12Days();
        yearOnceAheadOfAllElse();
        atMost6Persons();
        anAgeIs0To120();
        aPurseIs0To999();
        atMost8Birthdays();
        aDayIsOneOfTheYear();
        aPersonIsToldAhead();
        aPriceIs1To99();
        atMost10Goods();
        aGoodAgeIs0To120();
        aGoodIs0To99();
        eachGoodAgeOnce();
        aGoodUntoldIs0();
        numbersHaveOneToThreeFigures();
        wordsAreLettersSideBySide();
        blanksAnywhereButWithin();
        blanksAre32Alone();
        twoSideBySideNeedABlank();
        anEmptyTextHasNoFault();
        theFirstByteThatHasAFault();
        theEndAtTheTextsLength();
        whatCannotStandThere();
        ofFaultsAtOneByteTheLeast();
        aWrongTextLeavesTheLand();
        C.end();
    }

    private static void fault(String text, int number, int place) {
        OwnBirthdays x = new OwnBirthdays();
        C.due("land of '" + text + "'", Checks.tell(x, text), -10 - number);
        C.due("fault of '" + text + "'", x.fault(), place);
        C.due("bytes behind '" + text + "'", x.told(3), 0);
        C.due("persons behind '" + text + "'", x.told(1), 0);
        C.due("days behind '" + text + "'", x.told(0), 12);
    }

    private static OwnBirthdays fine(String text, int persons) {
        OwnBirthdays x = new OwnBirthdays();
        C.due("land of '" + text + "'", Checks.tell(x, text), persons);
        C.due("fault of '" + text + "'", x.fault(), Checks.NONE);
        C.due("bytes behind '" + text + "'", x.told(3), 0);
        C.due("persons behind '" + text + "'", x.told(1), persons);
        return x;
    }

    private static OwnBirthdays holding(int bytes) {
        OwnBirthdays x = new OwnBirthdays();
        Checks.feed(x, " ".repeat(bytes));
        return x;
    }

    /** "THE LAND is told in a text (500 bytes at most)" */
    private static void atMost500Bytes() {
        for (int n = 1; n <= 8; n++) {
            int many = n;
            C.due(n + " up to 499", holding(499 - n).feed(n, 0), 499);
            C.due(n + " up to 500", holding(500 - n).feed(n, 0), 500);
            C.refused(n + " up to 501", () -> holding(501 - many), x -> x.feed(many, 0), Checks.FULL);
            C.refused(n + " behind 500", () -> holding(500), x -> x.feed(many, 0), Checks.FULL);
        }
        fine(" ".repeat(489) + "person 1 1;", 1);
        fine("person 1 1;" + " ".repeat(489), 1);
        OwnBirthdays x = holding(496);
        C.due("five do not fit", x.feed(5, 0x786173643bL), Checks.FULL);
        C.due("four do", x.feed(4, 0x20202020L), 500);
        C.due("of the five none came", x.land(), 0);
    }

    /** "a YEAR has N days, 2 .. 60" */
    private static void aYearHas2To60Days() {
        fault("year 0;", 2, 5);
        fault("year 1;", 2, 5);
        C.due("2", fine("year 2;", 0).told(0), 2);
        C.due("3", fine("year 3;", 0).told(0), 3);
        C.due("59", fine("year 59;", 0).told(0), 59);
        C.due("60", fine("year 60;", 0).told(0), 60);
        fault("year 61;", 2, 5);
        fault("year 999;", 2, 5);
    }

    /** "12 untold" */
    private static void aYearUntoldHas12Days() {
        C.due("untold", fine("person 1 1;birthday 11 0 1;", 1).told(0), 12);
        fault("person 1 1;birthday 12 0 1;", 2, 20);
        OwnBirthdays x = fine("year 30;", 0);
        C.due("told ahead", x.told(0), 30);
        C.due("untold then", Checks.tell(x, "person 1 1;"), 1);
        C.due("12 again", x.told(0), 12);
        C.due("empty then", x.land(), 0);
        C.due("12 still", x.told(0), 12);
    }

    /** "once, ahead of all else, if it is told"; FAULT 1 behind another clause, FAULT 3 'year' again. */
    private static void yearOnceAheadOfAllElse() {
        C.due("ahead of all", fine("  year 20;person 1 1;good 1 1;birthday 19 0 1;", 1).told(0), 20);
        fault("person 1 1;year 20;", 1, 11);
        fault("person 1 1; year 20;", 1, 12);
        fault("good 1 1;year 20;", 1, 9);
        fault("person 1 1;birthday 1 0 1;year 20;", 1, 26);
        fault("person 1 1;year", 1, 11);
        fault("year 20;year 20;", 3, 8);
        fault("year 20; year 20;", 3, 9);
        fault("year 20;year", 3, 8);
        fault("year 20;year 20;person 1 1;", 3, 8);
    }

    /** "6 PERSONS at most"; FAULT 3 a seventh. */
    private static void atMost6Persons() {
        fine("", 0);
        fine("person 1 1;".repeat(5), 5);
        OwnBirthdays x = fine("person 1 1;".repeat(5) + "person 7 8;", 6);
        C.due("the sixth", x.person(5, 0), 7);
        C.due("no seventh", x.person(6, 0), Checks.UNKNOWN);
        fault(SIX + "person 1 1;", 3, 66);
        fault(SIX + "  person 1 1;", 3, 68);
        fault(SIX + "person", 3, 66);
        fault(SIX + "birthday 1 5 1;person 121 1;", 3, 81);
        fine(SIX + "good 1 1;birthday 1 5 1;", 6);
    }

    /** "AGE A 0 .. 120" */
    private static void anAgeIs0To120() {
        C.due("0", fine("person 0 5;", 1).person(0, 0), 0);
        C.due("1", fine("person 1 5;", 1).person(0, 0), 1);
        C.due("119", fine("person 119 5;", 1).person(0, 0), 119);
        C.due("120", fine("person 120 5;", 1).person(0, 0), 120);
        fault("person 121 5;", 2, 7);
        fault("person 999 5;", 2, 7);
        fault("person -1 5;", 1, 7);
    }

    /** "PURSE C 0 .. 999" */
    private static void aPurseIs0To999() {
        C.due("0", fine("person 5 0;", 1).person(0, 1), 0);
        C.due("1", fine("person 5 1;", 1).person(0, 1), 1);
        C.due("998", fine("person 5 998;", 1).person(0, 1), 998);
        C.due("999", fine("person 5 999;", 1).person(0, 1), 999);
        fault("person 5 1000;", 2, 9);
        fault("person 5 -1;", 1, 9);
    }

    /** "8 BIRTHDAYS at most"; FAULT 3 a ninth. */
    private static void atMost8Birthdays() {
        C.due("seven", fine("person 1 1;" + "birthday 1 0 1;".repeat(7), 1).told(2), 7);
        OwnBirthdays x = fine("person 1 1;" + "birthday 1 0 1;".repeat(7) + "birthday 2 0 3;", 1);
        C.due("eight", x.told(2), 8);
        C.due("the eighth", x.birthday(7, 2), 3);
        C.due("no ninth", x.birthday(8, 0), Checks.UNKNOWN);
        fault(EIGHT + "birthday 1 0 1;", 3, 131);
        fault(EIGHT + " birthday 99 9 0;", 3, 132);
        fault(EIGHT + "birthday", 3, 131);
        C.due("others may come", fine(EIGHT + "person 1 1;good 1 1;", 2).told(2), 8);
    }

    /** "on day D of the YEAR"; FAULT 2 a day that the YEAR has not. */
    private static void aDayIsOneOfTheYear() {
        int[] years = {2, 12, 60};
        for (int days : years) {
            String ahead = "year " + days + ";person 1 1;birthday ";
            C.due("day 0 of " + days, fine(ahead + "0 0 1;", 1).birthday(0, 0), 0);
            C.due("the last day of " + days, fine(ahead + (days - 1) + " 0 1;", 1).birthday(0, 0), days - 1);
            fault(ahead + days + " 0 1;", 2, ahead.length());
            fault(ahead + (days + 1) + " 0 1;", 2, ahead.length());
            fault(ahead + "-1 0 1;", 1, ahead.length());
        }
    }

    /** "PERSON P's, told ahead"; FAULT 2 a PERSON that was not told yet. */
    private static void aPersonIsToldAhead() {
        fault("birthday 1 0 1;", 2, 11);
        fault("birthday 1 0 1;person 1 1;", 2, 11);
        C.due("the first", fine("person 1 1;birthday 1 0 1;", 1).birthday(0, 1), 0);
        fault("person 1 1;birthday 1 1 1;", 2, 22);
        fault("person 1 1;birthday 1 1 1;person 1 1;", 2, 22);
        C.due("the last", fine("person 1 1;person 1 1;birthday 1 1 1;", 2).birthday(0, 1), 1);
        C.due("the sixth", fine(SIX + "birthday 1 5 1;", 6).birthday(0, 1), 5);
        fault(SIX + "birthday 1 6 1;", 2, 77);
        fault("person 1 1;birthday 1 -1 1;", 1, 22);
    }

    /** "its PRICE C, 1 .. 99" */
    private static void aPriceIs1To99() {
        fault("person 1 1;birthday 1 0 0;", 2, 24);
        C.due("1", fine("person 1 1;birthday 1 0 1;", 1).birthday(0, 2), 1);
        C.due("2", fine("person 1 1;birthday 1 0 2;", 1).birthday(0, 2), 2);
        C.due("98", fine("person 1 1;birthday 1 0 98;", 1).birthday(0, 2), 98);
        C.due("99", fine("person 1 1;birthday 1 0 99;", 1).birthday(0, 2), 99);
        fault("person 1 1;birthday 1 0 100;", 2, 24);
        fault("person 1 1;birthday 1 0 999;", 2, 24);
    }

    /** 'good' "10 at most"; FAULT 3 an 11th. */
    private static void atMost10Goods() {
        C.due("nine", fine(TEN.substring(0, 81), 0).good(8), 1);
        OwnBirthdays x = fine(TEN, 0);
        C.due("the tenth", x.good(9), 1);
        C.due("no more", x.good(10), 0);
        fault(TEN + "good 10 1;", 3, 90);
        fault(TEN + " good 10 1;", 3, 91);
        fault(TEN + "good", 3, 90);
        // an A again is a fault behind the word: the word comes first
        fault(TEN + "good 9 1;", 3, 90);
        // a good of 0 is told, too
        fault(TEN.replace(" 1;", " 0;") + "good 10 1;", 3, 90);
        fine(TEN + "person 1 1;birthday 1 0 1;", 1);
    }

    /** "to be of AGE A, 0 .. 120" */
    private static void aGoodAgeIs0To120() {
        C.due("0", fine("good 0 7;", 0).good(0), 7);
        C.due("1", fine("good 1 7;", 0).good(1), 7);
        C.due("119", fine("good 119 7;", 0).good(119), 7);
        C.due("120", fine("good 120 7;", 0).good(120), 7);
        fault("good 121 7;", 2, 5);
        fault("good 999 7;", 2, 5);
        fault("good -1 7;", 1, 5);
    }

    /** "is GOOD by V, 0 .. 99" */
    private static void aGoodIs0To99() {
        C.due("0", fine("good 7 0;", 0).good(7), 0);
        C.due("1", fine("good 7 1;", 0).good(7), 1);
        C.due("98", fine("good 7 98;", 0).good(7), 98);
        C.due("99", fine("good 7 99;", 0).good(7), 99);
        fault("good 7 100;", 2, 7);
        fault("good 7 999;", 2, 7);
        fault("good 7 -1;", 1, 7);
    }

    /** "each A once"; FAULT 4 an A again in 'good' (at it). */
    private static void eachGoodAgeOnce() {
        fault("good 7 1;good 7 1;", 4, 14);
        fault("good 7 1;good   7 1;", 4, 16);
        fault("good 7 1;good 007 1;", 4, 14);
        fault("good 7 1;good 8 1;good 7", 4, 23);
        // told as 0 is told, and the V behind it is not reached
        fault("good 7 0;good 7 0;", 4, 14);
        fault("good 0 0;good 0 100;", 4, 14);
        fault("good 120 1;good 120 x;", 4, 16);
        fault("good 0 1;person 1 1;good 0 1;", 4, 25);
        fine("good 7 7;good 6 7;good 8 7;", 0);
        OwnBirthdays x = fine("good 7 1;", 0);
        C.due("another text may tell it again", Checks.tell(x, "good 7 2;"), 0);
        C.due("the new one", x.good(7), 2);
    }

    /** "0 untold" */
    private static void aGoodUntoldIs0() {
        OwnBirthdays x = fine("good 7 9;good 120 9;", 0);
        int[] untold = {0, 6, 8, 119, 121, 998, 999};
        for (int age : untold) {
            C.due("untold " + age, x.good(age), 0);
        }
        C.due("told", x.good(7), 9);
        C.due("another text", Checks.tell(x, "good 8 9;"), 0);
        C.due("untold now", x.good(7), 0);
        C.due("untold now", x.good(120), 0);
    }

    /** "NUMBERS have one to three figures"; FAULT 2 of four figures or more. */
    private static void numbersHaveOneToThreeFigures() {
        C.due("one", fine("year 5;", 0).told(0), 5);
        C.due("two", fine("year 05;", 0).told(0), 5);
        C.due("three", fine("year 005;", 0).told(0), 5);
        fault("year 0005;", 2, 5);
        fault("year 00005;", 2, 5);
        fault("year ;", 1, 5);
        fault("person 0000 1;", 2, 7);
        fault("person 1 0000;", 2, 9);
        fault("person 1 1;birthday 0000 0 1;", 2, 20);
        fault("person 1 1;birthday 0 0000 1;", 2, 22);
        fault("person 1 1;birthday 0 0 0001;", 2, 24);
        fault("good 0000 1;", 2, 5);
        fault("good 1 0000;", 2, 7);
        C.due("zeros", fine("person 000 000;birthday 000 000 001;good 000 000;", 1).birthday(0, 2), 1);
        fault("year 4294967301;", 2, 5);
        fault("year 18446744073709551621;", 2, 5);
        fault("year " + "0".repeat(494) + "5", 2, 5);
        fault("year 1000", 2, 5);
        fault("year 12/;", 1, 7);
        fault("year 12:;", 1, 7);
    }

    /** "words are letters a .. z side by side" */
    private static void wordsAreLettersSideBySide() {
        String[] words = {"year", "person", "birthday", "good"};
        for (String word : words) {
            fault(word.substring(1) + " 5 5;", 1, 0);
            fault(word.substring(0, word.length() - 1) + " 5 5;", 1, 0);
            fault(word + "a 5 5;", 1, 0);
            fault(word + "z 5 5;", 1, 0);
            fault("a" + word + " 5 5;", 1, 0);
            fault("z" + word + " 5 5;", 1, 0);
            fault(word.toUpperCase() + " 5 5;", 1, 0);
            fault(word.substring(0, 2) + "z" + word.substring(3) + " 5 5;", 1, 0);
            // the sign below a and the one above z are no letters: the word ends ahead of them
            fault(word + "` 5 5;", 1, word.length());
            fault(word + "{ 5 5;", 1, word.length());
            fault("`" + word + " 5 5;", 1, 0);
            fault("{" + word + " 5 5;", 1, 0);
            fault(word + "A 5 5;", 1, word.length());
        }
        fault("a", 1, 0);
        fault("z", 1, 0);
    }

    /** "blanks (32) may stand anywhere but within words and NUMBERS" */
    private static void blanksAnywhereButWithin() {
        OwnBirthdays x = fine("   year   20   ;   person   3   4   ;   birthday   19   0   5   ;   good   6   7   ;   ", 1);
        C.due("year", x.told(0), 20);
        C.due("age", x.person(0, 0), 3);
        C.due("purse", x.person(0, 1), 4);
        C.due("day", x.birthday(0, 0), 19);
        C.due("price", x.birthday(0, 2), 5);
        C.due("good", x.good(6), 7);
        x = fine("year20;person3 4;birthday19 0 5;good6 7;", 1);
        C.due("year", x.told(0), 20);
        C.due("purse", x.person(0, 1), 4);
        C.due("day", x.birthday(0, 0), 19);
        C.due("good", x.good(6), 7);
        fault("ye ar 20;", 1, 0);
        fault("year 2 0;", 1, 7);
        fault("person 3 4 4;", 1, 11);
        fault("p erson 3 4;", 1, 0);
        fault("perso n 3 4;", 1, 0);
    }

    /** A blank is 32 and nothing else. */
    private static void blanksAre32Alone() {
        int[] others = {0, 1, 9, 10, 11, 12, 13, 31, 33, 127, 128, 160, 224, 255};
        for (int sign : others) {
            char c = (char) sign;
            fault(c + "year 20;", 1, 0);
            fault("year" + c + "20;", 1, 4);
            fault("year 20" + c + ";", 1, 7);
            fault("year 20;" + c, 1, 8);
            fault("person 1" + c + "1;", 1, 8);
        }
    }

    /** "two words, two NUMBERS side by side need one" */
    private static void twoSideBySideNeedABlank() {
        fault("yearperson 1 1;", 1, 0);
        fault("personperson 1 1;", 1, 0);
        fault("person person 1 1;", 1, 7);
        fault("person 11;", 1, 9);
        C.due("with one", fine("person 1 1;", 1).person(0, 1), 1);
        fault("person 1 1;birthday 10 0;", 1, 24);
        fault("good 11;", 1, 7);
        fine("good 1 1;", 0);
        fault("person 120999;", 2, 7);
    }

    /** "An empty text (or one of blanks alone) has no FAULT." */
    private static void anEmptyTextHasNoFault() {
        int[] many = {0, 1, 2, 8, 499, 500};
        for (int blanks : many) {
            OwnBirthdays x = fine(" ".repeat(blanks), 0);
            C.due("year of " + blanks + " blanks", x.told(0), 12);
        }
        OwnBirthdays x = Checks.landOf("year 5;person 1 1;birthday 4 0 1;good 1 1;");
        C.due("an empty text", x.land(), 0);
        C.due("its year", x.told(0), 12);
        C.due("its persons", x.told(1), 0);
        C.due("its birthdays", x.told(2), 0);
        C.due("its goods", x.good(1), 0);
        C.due("who lives", x.told(5), 0);
    }

    /** "FAULTS, at the first byte that has one" */
    private static void theFirstByteThatHasAFault() {
        fault("year 61;person 121 1000;good 1 1;good 1 1;cake", 2, 5);
        fault("year 60;person 121 1000;good 1 1;good 1 1;cake", 2, 15);
        fault("year 60;person 120 1000;good 1 1;good 1 1;cake", 2, 19);
        fault("year 60;person 120 100;good 1 1;good 1 1;cake", 4, 37);
        fault("year 60;person 120 100;good 1 1;good 2 1;cake", 1, 41);
        fault("cake year 61;", 1, 0);
        fault("person 1 1;birthday 12 1 0;", 2, 20);
        fault("person 1 1;birthday 11 1 0;", 2, 23);
        fault("person 1 1;birthday 11 0 0;", 2, 25);
        fault("year 61", 2, 5);
        fault("person 1 1000", 2, 9);
    }

    /** "the end at the text's length": a text is cut behind each of its bytes. */
    private static void theEndAtTheTextsLength() {
        String text = "year 30;person 11 12; birthday 22 0 33;good 44 55;";
        String ends = ";";
        for (int cut = 0; cut <= text.length(); cut++) {
            String begun = text.substring(0, cut);
            String open = begun.substring(begun.lastIndexOf(ends) + 1);
            String word = open.trim();
            boolean wholeWord = !word.matches("[a-z]+") || word.matches("year|person|birthday|good");
            if (word.isEmpty()) {
                fine(begun, cut > 20 ? 1 : 0);
            } else {
                fault(begun, 1, wholeWord ? cut : begun.length() - word.length());
                fault(begun + (wholeWord ? "   " : ""), 1, wholeWord ? cut + 3 : begun.length() - word.length());
            }
        }
        fault(" ".repeat(489) + "person 1 1 ", 1, 500);
        fault(" ".repeat(499) + "p", 1, 499);
        fault(" ".repeat(494) + "person", 1, 500);
    }

    /** FAULT 1 "it cannot stand there (a word that cannot ..: at its first letter)" */
    private static void whatCannotStandThere() {
        fault(";", 1, 0);
        fault("7", 1, 0);
        fault("cake 1;", 1, 0);
        fault("year 20;;", 1, 8);
        fault("year 20; 7", 1, 9);
        fault("year person 1 1;", 1, 5);
        fault("year 20 person", 1, 8);
        fault("year 20x;", 1, 7);
        fault("year 20 7;", 1, 8);
        fault("person 1;", 1, 8);
        fault("person ;", 1, 7);
        fault("person;", 1, 6);
        fault("person 1 1 1;", 1, 11);
        fault("person 1 one;", 1, 9);
        fault("person 1 1;birthday 1 0;", 1, 23);
        fault("person 1 1;birthday 1 0 1 1;", 1, 26);
        fault("good 1;", 1, 6);
        fault("good 1 1 1;", 1, 9);
        fault("good 1 1,", 1, 8);
        fault("good 1.5;", 1, 6);
        fault("good +1 1;", 1, 5);
    }

    /** "of these the least" */
    private static void ofFaultsAtOneByteTheLeast() {
        fault("year 5;person 1 1;year 5;", 1, 18);
        fault("year 5;good 1 1;year 5;", 1, 16);
        fault("year 5 5000;", 1, 7);
        fault("5000", 1, 0);
        fault(SIX + "person 1 1", 3, 66);
        fault("person 1 1;".repeat(5) + "person 1 person 1 1;", 1, 64);
        fault("good 7 1;good 0007 1;", 2, 14);
        fault("year 5;year 5", 3, 7);
        fault("year 5;year 5 year", 3, 7);
    }

    /** With a FAULT "all else is as it was", and THE TEXT is empty. */
    private static void aWrongTextLeavesTheLand() {
        String[] wrong = {"person 1 1", "person 121 1;", "year 5;year 5;", "good 1 1;good 1 1;", SIX + "x"};
        int[] number = {1, 2, 3, 4, 1};
        for (int i = 0; i < wrong.length; i++) {
            OwnBirthdays x = States.livelyWithoutText();
            C.due("land of '" + wrong[i] + "'", Checks.tell(x, wrong[i]), -10 - number[i]);
            C.due("bytes behind '" + wrong[i] + "'", x.told(3), 0);
            C.dueSame("all else behind '" + wrong[i] + "'", Look.atAllButTheText(x),
                Look.atAllButTheText(States.livelyWithoutText()));
        }
    }
}
