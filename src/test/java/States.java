/** States that the bounds are tried on: each call makes a new object. */
final class States {
    static final String FOUR = "year 10;person 17 50;person 30 100;person 12 5;person 40 7;"
        + "birthday 3 0 10;birthday 7 1 20;birthday 7 1 6;birthday 0 2 9;birthday 5 3 11;"
        + "good 18 5;good 19 3;good 31 9;good 20 50;";

    private States() {
    }

    /**
     * Of each thing something: day 4 of FOUR; ages 18, 30, 12, purses 45, 108, 9, the last one dead; birthday 0
     * lent by 0 to 2 till day 13; 0 owns 0 and 1, 1 owns 2, 2 owns 3 and 4; three told ages, the second wrong;
     * image 0 kept on day 2; a fault at 11; a text begun with 8 bytes; the seed 4.
     */
    static OwnBirthdays lively() {
        OwnBirthdays x = livelyWithoutText();
        Checks.tell(x, "person 1 1;x");
        Checks.feed(x, "person 7");
        return x;
    }

    static OwnBirthdays livelyWithoutText() {
        OwnBirthdays x = Checks.landOf(FOUR);
        x.seed(4);
        x.day(2);
        x.keep(0);
        x.day(2);
        x.sell(1, 0, 8);
        x.lend(0, 2, 9, 3);
        x.die(3);
        x.tell(0, 3, 19);
        x.tell(1, 3, 30);
        x.tell(2, 1, 13);
        return x;
    }

    /** 500 bytes. */
    static OwnBirthdays fullText() {
        OwnBirthdays x = livelyWithoutText();
        Checks.feed(x, " ".repeat(492) + "person 7");
        return x;
    }

    /** 20 told ages. */
    static OwnBirthdays fullAges() {
        OwnBirthdays x = lively();
        for (int i = 4; i <= 20; i++) {
            x.tell(0, i, 18);
        }
        return x;
    }

    static OwnBirthdays allDead() {
        OwnBirthdays x = lively();
        x.die(0);
        x.die(1);
        x.die(2);
        return x;
    }

    /** The most of all: six persons, eight birthdays, all of person 5. */
    static OwnBirthdays crowded() {
        return Checks.landOf(crowdedText());
    }

    static String crowdedText() {
        StringBuilder text = new StringBuilder("year 60;");
        for (int p = 0; p < 6; p++) {
            text.append("person ").append(10 + p).append(" 999;");
        }
        for (int b = 0; b < 8; b++) {
            text.append("birthday ").append(b + 1).append(" 5 ").append(b + 1).append(";");
        }
        return text.toString();
    }
}
