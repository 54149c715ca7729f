import java.util.Random;

/**
 * The document's "What it is", phrase by phrase, on lands by draws of a fixed seed. What is only tried (coin, given,
 * rests, life, forged) is done for real by the calls of days and deals, and has to come out as it was answered.
 */
public final class WhatItIsTest {
    private static final Checks C = new Checks("WhatItIsTest");
    private static final int NONE = Checks.NONE;
    private static final int LANDS = 1000;
    private static final Random RANDOM = new Random(18);

    /** How often a phrase was really tried: a test that tries nothing shows nothing. */
    private static int tried;

    public static void main(String[] args) {
        onesOwnToSellLendOrKeep();
        for (int i = 0; i < LANDS; i++) {
            Lands land = new Lands(RANDOM);
            whoHasNoneDoesNotAge(land);
            peopleWithAgesAndPurses(land);
            birthdaysOnDaysOfAYearOwned(land);
            pricesBySeason(land);
            toldInATextWithTheFirstFault(land);
            daysThatGoByWhoIsHowOldWhen(land);
            dealsThatCanBe(land);
        }
        onLands("lent till a day", WhatItIsTest::lentTillADay);
        onLands("the least coin", WhatItIsTest::theLeastCoinByBorrowing);
        onLands("a life", WhatItIsTest::aLifeByWhatIsWorthHaving);
        onLands("given", WhatItIsTest::birthdaysGivenSoThatEnoughAreOldEnough);
        onLands("told ages", WhatItIsTest::agesToldForDaysToCome);
        onLands("forged", WhatItIsTest::aForgedBirthdayFoundByThem);
        onLands("one dies", WhatItIsTest::whoHasWhatWhenOneDies);
        onLands("changes of hands", WhatItIsTest::changesOfHandsTillNobodyGains);
        onLands("years by draws", WhatItIsTest::yearsByDraws);
        onLands("images", WhatItIsTest::imagesToGoOnFrom);
        C.end();
    }

    private interface Phrase {
        void on(Lands land);
    }

    private static void onLands(String name, Phrase phrase) {
        tried = 0;
        for (int i = 0; i < LANDS; i++) {
            phrase.on(new Lands(RANDOM));
        }
        C.due(name + ": tried " + tried + " times, is that enough", tried >= LANDS / 4 ? 1 : 0, 1);
    }

    private static int below(int n) {
        return RANDOM.nextInt(n);
    }

    private static int coinsOf(OwnBirthdays x) {
        int all = 0;
        for (int p = 0; p < x.told(1); p++) {
            all += x.person(p, 1);
        }
        return all;
    }

    /** Each birthday is of one owner, who lives; of nobody only when nobody lives. */
    private static void eachHasOneOwner(String when, OwnBirthdays x) {
        int all = 0;
        int many = 0;
        for (int p = 0; p < x.told(1); p++) {
            int owned = x.person(p, 3);
            all |= owned;
            many += Integer.bitCount(owned);
            if ((x.told(5) >> p & 1) == 0) {
                C.due(when + ": owned by the dead", owned, 0);
            }
        }
        int due = x.told(5) == 0 ? 0 : (1 << x.told(2)) - 1;
        C.due(when + ": owned by all", all, due);
        C.due(when + ": owned once each", many, Integer.bitCount(due));
    }

    /** "here one's birthday is one's own to sell, lend or keep" */
    private static void onesOwnToSellLendOrKeep() {
        OwnBirthdays x = Checks.landOf("year 10;person 17 50;person 30 100;birthday 3 0 10;");
        x.day(3);
        C.due("kept: one ages by it", x.person(0, 0), 18);
        C.due("kept: the other does not", x.person(1, 0), 30);
        x.begin();
        C.due("sold", x.sell(0, 1, 20), 80);
        x.day(3);
        C.due("sold: paid", x.person(0, 1), 70);
        C.due("sold: one does not age", x.person(0, 0), 17);
        C.due("sold: the other does", x.person(1, 0), 31);
        x.begin();
        C.due("lent", x.lend(0, 1, 3, 5), 95);
        x.day(3);
        C.due("lent: paid", x.person(0, 1), 55);
        C.due("lent: the other ages", x.person(1, 0), 31);
        x.day(10);
        C.due("lent: one has it back", x.person(0, 0), 18);
        C.due("lent: the other has not", x.person(1, 0), 31);
    }

    /** "and who has none does not age" */
    private static void whoHasNoneDoesNotAge(Lands land) {
        OwnBirthdays x = land.made();
        x.day(1 + below(3 * land.year));
        for (int p = 0; p < land.age.length; p++) {
            boolean has = x.person(p, 3) != 0;
            int far = x.foretold(p, land.year);
            C.due("in a year", far, Math.min(999, x.person(p, 0) + Integer.bitCount(x.person(p, 3))));
            if (!has) {
                C.due("who has none", x.person(p, 0), land.age[p]);
            }
        }
    }

    /** "people with ages and purses" */
    private static void peopleWithAgesAndPurses(Lands land) {
        OwnBirthdays x = land.made();
        C.due("persons", x.told(1), land.age.length);
        for (int p = 0; p < land.age.length; p++) {
            C.due("age", x.person(p, 0), land.age[p]);
            C.due("purse", x.person(p, 1), land.purse[p]);
            C.due("lives", x.person(p, 2), 1);
        }
    }

    /** "birthdays on days of a year, owned" */
    private static void birthdaysOnDaysOfAYearOwned(Lands land) {
        OwnBirthdays x = land.made();
        C.due("year", x.told(0), land.year);
        C.due("birthdays", x.told(2), land.day.length);
        for (int b = 0; b < land.day.length; b++) {
            C.due("day", x.birthday(b, 0), land.day[b]);
            C.due("owner", x.birthday(b, 1), land.owner[b]);
            C.due("price", x.birthday(b, 2), land.price[b]);
            C.due("user", x.birthday(b, 5), land.owner[b]);
            C.due("owned", x.person(land.owner[b], 3) >> b & 1, 1);
        }
        eachHasOneOwner("as told", x);
    }

    /** "lent till a day" */
    private static void lentTillADay(Lands land) {
        if (land.day.length == 0 || land.age.length < 2) {
            return;
        }
        OwnBirthdays x = land.made();
        x.day(1 + below(100));
        int b = below(land.day.length);
        int p = (land.owner[b] + 1) % land.age.length;
        int n = 1 + below(60);
        C.due("lend", x.lend(b, p, n, 0), land.purse[p]);
        tried++;
        int till = x.birthday(b, 4);
        C.due("till", till, x.told(4) + n);
        while (x.told(4) < till) {
            C.due("lent on day " + x.told(4), x.birthday(b, 5), p);
            C.due("lent on day " + x.told(4), x.told(6), 1 << b);
            x.day(1);
        }
        C.due("over on day " + till, x.birthday(b, 5), land.owner[b]);
        C.due("over on day " + till, x.told(6), 0);
    }

    /** "prices by season": the nearer the dearer, never twice the price, from the day on its price again. */
    private static void pricesBySeason(Lands land) {
        OwnBirthdays x = land.made();
        x.day(1 + below(200));
        int[] was = new int[land.day.length];
        for (int t = 0; t <= land.year && t < 20; t++) {
            for (int b = 0; b < land.day.length; b++) {
                int season = x.birthday(b, 7);
                boolean comes = x.told(4) % land.year == land.day[b];
                C.due("season on its day", comes ? season : land.price[b], land.price[b]);
                C.due("season does not fall", comes || season >= was[b] ? 1 : 0, 1);
                C.due("season is less than twice the price", season < 2 * land.price[b] ? 1 : 0, 1);
                was[b] = season;
            }
            x.day(1);
        }
    }

    /** "told in a text with the first fault": a clause that is none is put behind a clause, another behind that. */
    private static void toldInATextWithTheFirstFault(Lands land) {
        String text = land.text();
        int clause = text.indexOf(';', below(text.length())) + 1;
        String wrong = text.substring(0, clause) + " cake 1;" + text.substring(clause) + "good 121 1;";
        OwnBirthdays x = new OwnBirthdays();
        C.due("land of '" + wrong + "'", Checks.tell(x, wrong), -11);
        C.due("fault of '" + wrong + "'", x.fault(), clause + 1);
        C.due("without it", Checks.tell(x, text + "good 121 1;"), land.goodAge.length == 10 ? -13 : -12);
        C.due("without it", x.fault(), text.length() + (land.goodAge.length == 10 ? 0 : 5));
        C.due("without any", Checks.tell(x, text), land.age.length);
        C.due("without any", x.fault(), NONE);
    }

    /** "days that go by, who is how old when" */
    private static void daysThatGoByWhoIsHowOldWhen(Lands land) {
        OwnBirthdays x = land.made();
        OwnBirthdays y = land.made();
        int[] foretold = new int[land.age.length];
        int n = 1 + below(60);
        for (int p = 0; p < foretold.length; p++) {
            foretold[p] = x.foretold(p, n);
        }
        C.due("at once", x.day(n), n);
        for (int t = 1; t <= n; t++) {
            C.due("day by day", y.day(1), t);
        }
        for (int p = 0; p < foretold.length; p++) {
            C.due("as foretold", x.person(p, 0), foretold[p]);
            C.due("as foretold, day by day", y.person(p, 0), foretold[p]);
        }
    }

    /** "deals that can be": a deal moves coin and a birthday; one that cannot be moves nothing; no coin is lost. */
    private static void dealsThatCanBe(Lands land) {
        if (land.day.length == 0) {
            return;
        }
        OwnBirthdays x = land.made();
        int coins = coinsOf(x);
        for (int i = 0; i < 8; i++) {
            int b = below(land.day.length);
            int p = below(land.age.length);
            int sum = below(60);
            int purse = x.person(p, 1);
            int owner = x.birthday(b, 1);
            boolean can = owner != p && x.birthday(b, 3) == NONE && purse >= sum;
            if (below(3) == 0) {
                C.due("lend", x.lend(b, p, 1 + below(9), sum), can ? purse - sum : Checks.NOT);
                C.due("its owner stays", x.birthday(b, 1), owner);
            } else {
                C.due("sell", x.sell(b, p, sum), can ? purse - sum : Checks.NOT);
                C.due("its owner then", x.birthday(b, 1), can ? p : owner);
            }
            C.due("no coin is lost", coinsOf(x), coins);
        }
        eachHasOneOwner("behind deals", x);
    }

    /** "the least coin by borrowing so that one is so much older on a day": it is borrowed, and the day comes. */
    private static void theLeastCoinByBorrowing(Lands land) {
        OwnBirthdays x = land.made();
        x.day(1 + below(50));
        for (int i = 0; i < 6; i++) {
            x.keep(0);
            int p = below(land.age.length);
            int v = below(6);
            int n = 1 + below(2 * land.year);
            int sum = x.coin(p, v, n, 0);
            int set = x.coin(p, v, n, 1);
            C.due("both or none", sum == NONE ? 1 : 0, set == NONE ? 1 : 0);
            if (sum == NONE || sum > x.person(p, 1)) {
                continue;
            }
            tried += set == 0 ? 0 : 1;
            int purse = x.person(p, 1);
            int age = x.person(p, 0);
            for (int b = 0; b < land.day.length; b++) {
                if ((set >> b & 1) == 1) {
                    purse -= x.birthday(b, 7);
                    C.due("borrowed", x.lend(b, p, n, x.birthday(b, 7)), purse);
                }
            }
            x.day(n);
            C.due("older by " + v, x.person(p, 0), Math.min(999, age + v));
            x.goBack(0);
            C.due("for that sum", x.person(p, 1) - purse, sum);
        }
    }

    /** "a life: when to age, by what is worth having at each age": the row is worth what was answered. */
    private static void aLifeByWhatIsWorthHaving(Lands land) {
        OwnBirthdays x = land.made();
        int p = below(land.age.length);
        int m = 1 + below(60);
        int age = x.person(p, 0);
        int sum = 0;
        int ages = 0;
        for (int i = 0; i < m; i++) {
            int grows = x.life(p, m, i);
            C.due("ages or not", grows == 0 || grows == 1 ? 1 : 0, 1);
            age += grows;
            ages += grows;
            sum += x.good(age);
        }
        tried += ages > 0 ? 1 : 0;
        C.due("the row's sum", x.life(p, m, NONE), sum);
        C.due("one year more is worth no less", x.life(p, Math.min(60, m + 1), NONE) >= sum ? 1 : 0, 1);
        C.due("never to age is worth no more", m * x.good(land.age[p]) <= sum ? 1 : 0, 1);
    }

    /** "who may vote, birthdays given so that enough are old enough at the least price": they are given, and all vote. */
    private static void birthdaysGivenSoThatEnoughAreOldEnough(Lands land) {
        OwnBirthdays x = land.made();
        x.day(1 + below(50));
        for (int i = 0; i < 4; i++) {
            int k = below(land.age.length + 1);
            int v = x.person(below(land.age.length), 0) + below(4);
            int n = 1 + below(2 * land.year);
            int sum = x.given(k, v, n, NONE);
            if (sum == NONE) {
                continue;
            }
            x.keep(1);
            int paid = 0;
            int[] to = new int[land.day.length];
            for (int b = 0; b < to.length; b++) {
                to[b] = x.given(k, v, n, b);
            }
            for (int b = 0; b < to.length; b++) {
                if (to[b] != x.birthday(b, 1)) {
                    paid += x.birthday(b, 2);
                    C.due("given", x.sell(b, to[b], 0), x.person(to[b], 1));
                }
            }
            C.due("the sum", paid, sum);
            tried += paid > 0 ? 1 : 0;
            C.due("given so, it costs nothing", x.given(k, v, n, NONE), 0);
            x.day(n);
            C.due("enough vote", Integer.bitCount(x.votes(v)) >= k ? 1 : 0, 1);
            x.goBack(1);
        }
    }

    /** "ages told for days to come": what is foretold is right. */
    private static void agesToldForDaysToCome(Lands land) {
        OwnBirthdays x = land.made();
        int wrong = below(20);
        for (int i = 0; i < 20; i++) {
            int p = below(land.age.length);
            int n = below(100);
            C.due("tell", x.tell(p, n, x.foretold(p, n)), i + 1);
        }
        tried++;
        C.due("as foretold", x.judge(), NONE);
        C.due("torn", x.tear(), 20);
        for (int i = 0; i < 20; i++) {
            int p = below(land.age.length);
            int n = below(100);
            x.tell(p, n, x.foretold(p, n) + (i >= wrong ? 1 : 0));
        }
        C.due("the first wrong one", x.judge(), wrong);
    }

    /** "a forged birthday found by them, all that fit": those without which a land is as the ages were told. */
    private static void aForgedBirthdayFoundByThem(Lands land) {
        if (land.day.length == 0) {
            return;
        }
        int forged = below(land.day.length);
        OwnBirthdays x = land.made();
        OwnBirthdays without = Checks.landOf(land.textWithout(forged));
        int many = 1 + below(4);
        int[][] told = new int[many][];
        for (int i = 0; i < many; i++) {
            int p = below(land.age.length);
            int n = below(2 * land.year);
            told[i] = new int[] {p, n, without.foretold(p, n)};
            x.tell(p, n, told[i][2]);
        }
        tried += x.judge() == NONE ? 0 : 1;
        int set = 0;
        for (int b = 0; b < land.day.length; b++) {
            OwnBirthdays other = Checks.landOf(land.textWithout(b));
            boolean fits = true;
            for (int[] one : told) {
                fits &= other.foretold(one[0], one[1]) == one[2];
            }
            set |= fits ? 1 << b : 0;
        }
        C.due("it fits", set >> forged & 1, 1);
        C.due("all that fit", x.forged(), set);
    }

    /** "who has what when one dies": all is somebody's until the last one dies. */
    private static void whoHasWhatWhenOneDies(Lands land) {
        OwnBirthdays x = land.made();
        int coins = coinsOf(x);
        for (int i = land.age.length; i > 0; i--) {
            x.day(1 + below(20));
            int p = below(land.age.length);
            while (x.person(p, 2) == 0) {
                p = (p + 1) % land.age.length;
            }
            int owned = x.person(p, 3);
            int purse = x.person(p, 1);
            int heir = x.die(p);
            tried += i > 1 ? 1 : 0;
            C.due("nobody only at last", heir == NONE ? 1 : 0, i == 1 ? 1 : 0);
            C.due("coin", coinsOf(x), i == 1 ? 0 : coins);
            eachHasOneOwner("behind a death", x);
            if (heir != NONE) {
                C.due("the heir lives", x.person(heir, 2), 1);
                C.due("the heir has its birthdays", x.person(heir, 3) & owned, owned);
                C.due("the heir has its purse", x.person(heir, 1) >= purse ? 1 : 0, 1);
                int youngest = x.person(heir, 0);
                for (int q = 0; q < land.age.length; q++) {
                    int least = q < heir ? youngest + 1 : youngest;
                    C.due("the youngest, of like ones the least", x.person(q, 2) == 0 || x.person(q, 0) >= least ? 1 : 0, 1);
                }
            }
        }
    }

    private static int worthOfAll(OwnBirthdays x) {
        int all = 0;
        for (int p = 0; p < x.told(1); p++) {
            all += x.good(x.person(p, 0) + Integer.bitCount(x.person(p, 3)));
        }
        return all;
    }

    /** "changes of hands till nobody gains by any": they are sold so, and then all rest. */
    private static void changesOfHandsTillNobodyGains(Lands land) {
        OwnBirthdays x = land.made();
        int times = x.rests(NONE);
        int worth = worthOfAll(x);
        int[] to = new int[land.day.length];
        for (int b = 0; b < to.length; b++) {
            to[b] = x.rests(b);
        }
        for (int b = 0; b < to.length; b++) {
            if (to[b] != x.birthday(b, 1)) {
                C.due("sold", x.sell(b, to[b], 0), x.person(to[b], 1));
            }
        }
        tried += times > 0 ? 1 : 0;
        C.due("fewer than the bound", times < 40 ? 1 : 0, 1);
        C.due("nobody gains by any", x.rests(NONE), 0);
        C.due("each change is worth 1 or more", worthOfAll(x) >= worth + times ? 1 : 0, 1);
    }

    /** "years by draws": by the same seed the same years; no coin is lost, each birthday stays somebody's. */
    private static void yearsByDraws(Lands land) {
        int seed = RANDOM.nextInt() & Integer.MAX_VALUE;
        OwnBirthdays x = land.made();
        OwnBirthdays y = land.made();
        x.seed(seed);
        y.seed(seed);
        int n = 1 + below(300);
        int coins = coinsOf(x);
        C.due("drift", x.drift(n), n);
        int first = 1 + below(n);
        C.due("a part", y.drift(first), first);
        if (first < n) {
            C.due("the rest", y.drift(n - first), n);
        }
        C.due("no coin is lost", coinsOf(x), coins);
        eachHasOneOwner("behind draws", x);
        for (int b = 0; b < land.day.length; b++) {
            tried += x.birthday(b, 1) == land.owner[b] ? 0 : 1;
        }
        C.dueSame("in two parts", Look.atAll(y), Look.atAll(x));
    }

    /** "images to go on from": what is done again from an image comes out again. */
    private static void imagesToGoOnFrom(Lands land) {
        OwnBirthdays x = land.made();
        x.drift(1 + below(50));
        int image = below(2);
        x.keep(image);
        int n = 1 + below(100);
        int p = below(land.age.length);
        String first = onward(x, n, p);
        x.goBack(image);
        String again = onward(x, n, p);
        tried++;
        C.dueSame("gone on from an image", again, first);
    }

    private static String onward(OwnBirthdays x, int n, int p) {
        StringBuilder seen = new StringBuilder();
        seen.append(x.drift(n)).append(' ').append(x.die(p)).append(' ').append(x.day(n)).append(' ');
        for (int q = 0; q < x.told(1); q++) {
            seen.append(x.person(q, 0)).append(' ').append(x.person(q, 1)).append(' ').append(x.person(q, 3)).append(' ');
        }
        return seen.toString();
    }
}
