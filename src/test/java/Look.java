/** All that can be seen of an object, as a text of answers; looking uses the object up (some 250 calls). */
final class Look {
    private static final int[] FAR = {0, 1, 7, 30, 99999};
    private static final int[] AGES = {0, 12, 18, 19, 20, 31, 120, 121};

    private final OwnBirthdays x;
    private final StringBuilder seen = new StringBuilder();

    private Look(OwnBirthdays x) {
        this.x = x;
    }

    static String atAll(OwnBirthdays x) {
        Look look = new Look(x);
        look.put("fault", x.fault());
        look.put("bytes", x.told(3));
        look.atTheRest();
        look.atTheText();
        return look.seen.toString();
    }

    /** Without THE TEXT and the place of its FAULT. */
    static String atAllButTheText(OwnBirthdays x) {
        Look look = new Look(x);
        look.atTheRest();
        return look.seen.toString();
    }

    private void put(String name, int answer) {
        seen.append(name).append('=').append(answer).append(' ');
    }

    private void atTheRest() {
        atWhatWasTold();
        atNow();
        atTheSeed();
        atDaysToCome();
        for (int image = 0; image < 2; image++) {
            put("goBack", x.goBack(image));
            atNow();
            atTheSeed();
        }
        put("begin", x.begin());
        atNow();
    }

    private void atWhatWasTold() {
        put("year", x.told(0));
        put("persons", x.told(1));
        put("birthdays", x.told(2));
        put("ages", x.told(7));
        for (int b = 0; b < x.told(2); b++) {
            put("D", x.birthday(b, 0));
            put("C", x.birthday(b, 2));
        }
        for (int age : AGES) {
            put("good", x.good(age));
        }
    }

    private void atNow() {
        put("today", x.told(4));
        put("live", x.told(5));
        put("lent", x.told(6));
        int persons = x.told(1);
        for (int p = 0; p < persons; p++) {
            put("age", x.person(p, 0));
            put("purse", x.person(p, 1));
        }
        int birthdays = x.told(2);
        for (int b = 0; b < birthdays; b++) {
            put("owner", x.birthday(b, 1));
            put("to", x.birthday(b, 3));
            put("till", x.birthday(b, 4));
        }
        put("judge", x.judge());
        put("forged", x.forged());
    }

    private void atTheSeed() {
        int seed = x.seed(0);
        put("seed", seed);
        x.seed(seed);
    }

    /** Told ages are seen by the days on which another one is wrong. */
    private void atDaysToCome() {
        int persons = x.told(1);
        for (int p = 0; p < persons; p++) {
            for (int n : FAR) {
                put("foretold", x.foretold(p, n));
            }
        }
        for (int i = 0; i < 12; i++) {
            put("day", x.day(1));
            put("judge", x.judge());
            put("forged", x.forged());
        }
    }

    /** What was fed is seen by what it tells with " 8;" behind it. */
    private void atTheText() {
        put("feed", x.feed(3, 0x20383bL));
        put("land", x.land());
        put("fault", x.fault());
        put("persons", x.told(1));
        put("age", x.person(0, 0));
        put("purse", x.person(0, 1));
        put("ages", x.told(7));
        put("goBack", x.goBack(0));
    }
}
