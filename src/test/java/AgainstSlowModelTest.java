import java.util.Random;

/** Runs of calls by draws of a fixed seed: the class answers what the slow model answers. */
public final class AgainstSlowModelTest {
    private static final Checks C = new Checks("AgainstSlowModelTest");
    private static Random random;
    private static OwnBirthdays x;
    private static SlowModel y;

    public static void main(String[] args) {
        int texts = args.length > 0 ? Integer.parseInt(args[0]) : 6000;
        int runs = args.length > 1 ? Integer.parseInt(args[1]) : 300;
        long first = args.length > 2 ? Long.parseLong(args[2]) : 0;
        random = new Random(first);
        for (int i = 0; i < texts; i++) {
            oneText(i);
        }
        for (int i = 0; i < runs; i++) {
            oneRun(i);
        }
        C.end();
    }

    private static int below(int n) {
        return random.nextInt(n);
    }

    private static boolean oneIn(int n) {
        return below(n) == 0;
    }

    private static String blanks() {
        return " ".repeat(oneIn(4) ? below(3) + 1 : 1);
    }

    /** A land of like ages, prices and days, so that there are like sums. */
    private static String text() {
        StringBuilder s = new StringBuilder();
        int year = 12;
        if (!oneIn(4)) {
            year = oneIn(3) ? 2 + below(59) : 2 + below(9);
            s.append("year").append(blanks()).append(year).append(";");
        }
        int persons = 1 + below(6);
        int ages = oneIn(4) ? 121 : 1 + below(20);
        int oldest = Math.min(120, below(120) + ages);
        for (int p = 0; p < persons; p++) {
            int age = Math.max(0, oldest - below(ages));
            s.append("person ").append(age).append(blanks()).append(oneIn(3) ? below(1000) : below(100)).append(";");
        }
        int birthdays = below(9);
        int prices = oneIn(2) ? 99 : 1 + below(6);
        int days = oneIn(2) ? year : 1 + below(year);
        for (int b = 0; b < birthdays; b++) {
            s.append("birthday ").append(below(days)).append(" ").append(below(persons)).append(" ")
                .append(1 + below(prices)).append(";");
        }
        int goods = below(11);
        boolean[] used = new boolean[121];
        for (int g = 0; g < goods; g++) {
            int age = Math.min(120, Math.max(0, oldest - ages + below(ages + 12)));
            if (!used[age]) {
                used[age] = true;
                s.append("good ").append(age).append(" ").append(oneIn(2) ? below(100) : below(5)).append(";");
            }
        }
        return s.length() > 500 ? s.substring(0, 500) : s.toString();
    }

    private static String spoilt(String text) {
        StringBuilder s = new StringBuilder(text);
        String signs = "  ;;0123456789ayprgodebirthdaysonz:/`{\t\0\u00e9A";
        String[] words = {"year 5;", "person 1 1;", "birthday 0 0 1;", "good 1 1;", "year", "1", " 100 ", "0001", "person", ";", "good"};
        int times = 1 + below(3);
        for (int i = 0; i < times; i++) {
            int at = below(s.length() + 1);
            int kind = below(5);
            if (kind == 0 && at < s.length()) {
                s.deleteCharAt(at);
            } else if (kind == 1 && at < s.length()) {
                s.setCharAt(at, signs.charAt(below(signs.length())));
            } else if (kind == 2) {
                s.insert(at, signs.charAt(below(signs.length())));
            } else if (kind == 3) {
                int clause = s.indexOf(";", Math.min(at, Math.max(0, s.length() - 1))) + 1;
                s.insert(clause, words[below(words.length)]);
            } else if (oneIn(3)) {
                s.setLength(at);
            }
        }
        return s.length() > 500 ? s.substring(0, 500) : s.toString();
    }

    private static void feedBoth(String text) {
        int at = 0;
        while (at < text.length()) {
            int n = Math.min(1 + below(8), text.length() - at);
            long bytes = random.nextLong();
            for (int i = 0; i < n; i++) {
                bytes = bytes << 8 | text.charAt(at + i) & 255;
            }
            C.due("feed", x.feed(n, bytes), y.feed(n, bytes));
            at += n;
        }
    }

    private static void landBoth(String text) {
        feedBoth(text);
        C.due("land of '" + text + "'", x.land(), y.land());
        C.due("fault of '" + text + "'", x.fault(), y.fault());
    }

    private static void oneText(int i) {
        x = new OwnBirthdays();
        y = new SlowModel();
        landBoth(oneIn(5) ? text() : spoilt(text()));
        lookAtAll("text " + i);
    }

    private static void lookAtAll(String where) {
        for (int what = 0; what < 8; what++) {
            C.due(where + ": told " + what, x.told(what), y.told(what));
        }
        for (int p = 0; p < 6; p++) {
            for (int what = 0; what < 5; what++) {
                C.due(where + ": person " + p + " " + what, x.person(p, what), y.person(p, what));
            }
        }
        for (int b = 0; b < 8; b++) {
            for (int what = 0; what < 8; what++) {
                C.due(where + ": birthday " + b + " " + what, x.birthday(b, what), y.birthday(b, what));
            }
        }
        int seed = x.seed(0);
        C.due(where + ": seed", seed, y.seed(0));
        x.seed(seed);
        y.seed(seed);
    }

    private static void oneRun(int i) {
        x = new OwnBirthdays();
        y = new SlowModel();
        landBoth(text());
        for (int j = 0; j < 60; j++) {
            String where = "run " + i + ", step " + j;
            oneDeed(where);
            oneLook(where);
            if (oneIn(10)) {
                lookAtAll(where);
            }
        }
    }

    private static int somePerson() {
        return oneIn(30) ? below(9) - 1 : below(Math.max(1, x.told(1)));
    }

    private static int someBirthday() {
        return oneIn(30) ? below(11) - 1 : below(Math.max(1, x.told(2)));
    }

    private static int someSum() {
        return oneIn(20) ? below(1100) - 50 : oneIn(2) ? 0 : below(100);
    }

    private static int someDays() {
        return oneIn(30) ? below(3) - 1 : oneIn(30) ? 9998 + below(3) : oneIn(3) ? 1 + below(100) : 1 + below(x.told(0));
    }

    private static void oneDeed(String where) {
        int b = someBirthday();
        int p = somePerson();
        int n = someDays();
        int sum = someSum();
        switch (below(16)) {
            case 0: case 1: case 2:
                C.due(where + ": day " + n, x.day(n), y.day(n));
                break;
            case 3: case 4: case 5:
                C.due(where + ": sell " + b + " " + p + " " + sum, x.sell(b, p, sum), y.sell(b, p, sum));
                break;
            case 6: case 7: case 8:
                C.due(where + ": lend " + b + " " + p + " " + n + " " + sum, x.lend(b, p, n, sum), y.lend(b, p, n, sum));
                break;
            case 9:
                if (oneIn(3)) {
                    C.due(where + ": die " + p, x.die(p), y.die(p));
                }
                break;
            case 10:
                if (oneIn(4)) {
                    C.due(where + ": begin", x.begin(), y.begin());
                }
                break;
            case 11:
                int days = oneIn(20) ? 999 + below(2) : below(40);
                C.due(where + ": drift " + days, x.drift(days), y.drift(days));
                break;
            case 12:
                int seed = random.nextInt();
                C.due(where + ": seed", x.seed(seed), y.seed(seed));
                break;
            case 13:
                int image = below(oneIn(9) ? 4 : 2) - (oneIn(20) ? 1 : 0);
                C.due(where + ": keep " + image, x.keep(image), y.keep(image));
                break;
            case 14:
                int back = below(oneIn(9) ? 4 : 2) - (oneIn(20) ? 1 : 0);
                C.due(where + ": goBack " + back, x.goBack(back), y.goBack(back));
                break;
            default:
                if (oneIn(6)) {
                    landBoth(oneIn(2) ? text() : spoilt(text()));
                }
                break;
        }
    }

    private static void oneLook(String where) {
        int p = somePerson();
        int n = someDays();
        switch (below(8)) {
            case 0: {
                int far = oneIn(9) ? below(100100) - 50 : n - 1;
                C.due(where + ": foretold " + p + " " + far, x.foretold(p, far), y.foretold(p, far));
                break;
            }
            case 1: {
                int base = Math.max(0, x.foretold(p, n) - Math.max(0, x.person(p, 0)));
                int v = oneIn(20) ? below(1100) - 50 : base + below(1 + n / x.told(0) * 3 + 3);
                int what = oneIn(20) ? below(4) - 1 : below(2);
                C.due(where + ": coin " + p + " " + v + " " + n + " " + what, x.coin(p, v, n, what), y.coin(p, v, n, what));
                break;
            }
            case 2: {
                int m = oneIn(9) ? 0 : 1 + below(11);
                int year = below(m + 4) - 2;
                C.due(where + ": life " + p + " " + m + " " + year, x.life(p, m, year), y.life(p, m, year));
                break;
            }
            case 3: {
                int v = oneIn(9) ? below(1100) - 50 : Math.max(0, x.person(p, 0)) + below(3) - 1;
                C.due(where + ": votes " + v, x.votes(v), y.votes(v));
                break;
            }
            case 4: {
                // all ways of eight birthdays among six are many: not in each such look
                if (x.told(2) < 7 || Integer.bitCount(x.told(5)) < 5 || oneIn(12)) {
                    int k = below(oneIn(9) ? 9 : 1 + x.told(1)) - (oneIn(30) ? 1 : 0);
                    int days = oneIn(3) ? n : 1 + below(3 * x.told(0));
                    int v = oneIn(20) ? below(1100) - 50 : Math.max(0, x.person(p, 0)) + below(5 + 2 * days / x.told(0));
                    for (int b = -1; b < x.told(2); b++) {
                        String call = where + ": given " + k + " " + v + " " + days + " " + b;
                        if (b == -1 || x.told(2) < 6 || Integer.bitCount(x.told(5)) < 5 || oneIn(4)) {
                            C.due(call, x.given(k, v, days, b), y.given(k, v, days, b));
                        }
                    }
                }
                break;
            }
            case 5:
                for (int b = -2; b <= x.told(2); b++) {
                    C.due(where + ": rests " + b, x.rests(b), y.rests(b));
                }
                break;
            default:
                toldAges(where, p, n);
                break;
        }
    }

    private static void toldAges(String where, int p, int n) {
        if (oneIn(6)) {
            C.due(where + ": tear", x.tear(), y.tear());
        }
        int times = 1 + below(3);
        for (int i = 0; i < times; i++) {
            int days = oneIn(10) ? n : below(2 * x.told(0));
            int age = oneIn(20) ? below(1100) - 50 : x.foretold(p, days) - (oneIn(4) ? 1 : 0);
            C.due(where + ": tell " + p + " " + days + " " + age, x.tell(p, days, age), y.tell(p, days, age));
        }
        C.due(where + ": judge", x.judge(), y.judge());
        C.due(where + ": forged", x.forged(), y.forged());
    }
}
