import java.util.ArrayList;
import java.util.List;
import java.util.regex.Matcher;
import java.util.regex.Pattern;

/** The document's words done over in the slowest, plainest way: day by day, way by way. */
final class SlowModel {
    static final int NONE = -1, UNKNOWN = -1000000001, OUTSIDE = -1000000002, NOT = -1000000003, FULL = -1000000004;

    static final class Person implements Cloneable {
        int age, purse;
        boolean alive = true;

        Person copy() {
            Person c = new Person();
            c.age = age;
            c.purse = purse;
            c.alive = alive;
            return c;
        }
    }

    static final class Birthday {
        int day, price, owner, lentTo = NONE, till = NONE;

        Birthday copy() {
            Birthday c = new Birthday();
            c.day = day;
            c.price = price;
            c.owner = owner;
            c.lentTo = lentTo;
            c.till = till;
            return c;
        }

        int user() {
            return lentTo != NONE ? lentTo : owner;
        }
    }

    static final class World {
        List<Person> persons = new ArrayList<>();
        List<Birthday> birthdays = new ArrayList<>();
        int today;
        int seed;

        World copy() {
            World c = new World();
            for (Person p : persons) {
                c.persons.add(p.copy());
            }
            for (Birthday b : birthdays) {
                c.birthdays.add(b.copy());
            }
            c.today = today;
            c.seed = seed;
            return c;
        }
    }

    private int year = 12;
    private int[] good = new int[2000];
    private World told = new World();
    private World now = new World();
    private final World[] images = new World[2];
    private final List<int[]> ages = new ArrayList<>();
    private final StringBuilder text = new StringBuilder();
    private int faultPlace = NONE;

    // ---- the land

    int feed(int n, long bytes) {
        if (n < 1 || n > 8) {
            return OUTSIDE;
        }
        if (text.length() + n > 500) {
            return FULL;
        }
        for (int i = n - 1; i >= 0; i--) {
            text.append((char) (bytes >> 8 * i & 255));
        }
        return text.length();
    }

    private static final class Fault extends RuntimeException {
        final int number;
        final int place;

        Fault(int number, int place) {
            this.number = number;
            this.place = place;
        }
    }

    int land() {
        String source = text.toString();
        text.setLength(0);
        faultPlace = NONE;
        World world = new World();
        int[] goods = new int[2000];
        int newYear;
        try {
            newYear = parse(source, world, goods);
        } catch (Fault fault) {
            faultPlace = fault.place;
            return -10 - fault.number;
        }
        year = newYear;
        good = goods;
        told = world;
        int seed = now.seed;
        now = world.copy();
        now.seed = seed;
        ages.clear();
        images[0] = null;
        images[1] = null;
        return world.persons.size();
    }

    /** By signs: all of them first, then the clauses. */
    private static int parse(String source, World world, int[] goods) {
        List<String> signs = new ArrayList<>();
        List<Integer> places = new ArrayList<>();
        Matcher m = Pattern.compile("[a-z]+|[0-9]+|[^ ]", Pattern.DOTALL).matcher(source);
        while (m.find()) {
            signs.add(m.group());
            places.add(m.start());
        }
        signs.add("");
        places.add(source.length());
        int year = 12;
        boolean yearTold = false;
        boolean others = false;
        boolean[] hasGood = new boolean[121];
        int goodCount = 0;
        int i = 0;
        while (i < signs.size() - 1) {
            String word = signs.get(i);
            int place = places.get(i);
            int numbers;
            switch (word) {
                case "year":
                    if (others) {
                        throw new Fault(1, place);
                    }
                    if (yearTold) {
                        throw new Fault(3, place);
                    }
                    numbers = 1;
                    break;
                case "person":
                    if (world.persons.size() == 6) {
                        throw new Fault(3, place);
                    }
                    numbers = 2;
                    break;
                case "birthday":
                    if (world.birthdays.size() == 8) {
                        throw new Fault(3, place);
                    }
                    numbers = 3;
                    break;
                case "good":
                    if (goodCount == 10) {
                        throw new Fault(3, place);
                    }
                    numbers = 2;
                    break;
                default:
                    throw new Fault(1, place);
            }
            int[] value = new int[numbers];
            for (int k = 0; k < numbers; k++) {
                String sign = signs.get(i + 1 + k);
                int at = places.get(i + 1 + k);
                if (!sign.matches("[0-9]+")) {
                    throw new Fault(1, at);
                }
                if (sign.length() > 3) {
                    throw new Fault(2, at);
                }
                value[k] = Integer.parseInt(sign);
                int[][] bounds = word.equals("year") ? new int[][] {{2, 60}}
                    : word.equals("person") ? new int[][] {{0, 120}, {0, 999}}
                    : word.equals("birthday") ? new int[][] {{0, year - 1}, {0, world.persons.size() - 1}, {1, 99}}
                    : new int[][] {{0, 120}, {0, 99}};
                if (value[k] < bounds[k][0] || value[k] > bounds[k][1]) {
                    throw new Fault(2, at);
                }
                if (word.equals("good") && k == 0 && hasGood[value[0]]) {
                    throw new Fault(4, at);
                }
            }
            if (!signs.get(i + 1 + numbers).equals(";")) {
                throw new Fault(1, places.get(i + 1 + numbers));
            }
            i += numbers + 2;
            if (word.equals("year")) {
                year = value[0];
                yearTold = true;
                continue;
            }
            others = true;
            if (word.equals("person")) {
                Person p = new Person();
                p.age = value[0];
                p.purse = value[1];
                world.persons.add(p);
            } else if (word.equals("birthday")) {
                Birthday b = new Birthday();
                b.day = value[0];
                b.owner = value[1];
                b.price = value[2];
                world.birthdays.add(b);
            } else {
                goods[value[0]] = value[1];
                hasGood[value[0]] = true;
                goodCount++;
            }
        }
        return year;
    }

    int fault() {
        return faultPlace;
    }

    int told(int what) {
        int set = 0;
        switch (what) {
            case 0: return year;
            case 1: return now.persons.size();
            case 2: return now.birthdays.size();
            case 3: return text.length();
            case 4: return now.today;
            case 5:
                for (int p = 0; p < now.persons.size(); p++) {
                    set += now.persons.get(p).alive ? 1 << p : 0;
                }
                return set;
            case 6:
                for (int b = 0; b < now.birthdays.size(); b++) {
                    set += now.birthdays.get(b).lentTo != NONE ? 1 << b : 0;
                }
                return set;
            case 7: return ages.size();
            default: return OUTSIDE;
        }
    }

    private boolean noPerson(int p) {
        return p < 0 || p >= now.persons.size();
    }

    private boolean noBirthday(int b) {
        return b < 0 || b >= now.birthdays.size();
    }

    int person(int p, int what) {
        if (noPerson(p)) {
            return UNKNOWN;
        }
        if (what < 0 || what > 4) {
            return OUTSIDE;
        }
        Person one = now.persons.get(p);
        if (what < 3) {
            return what == 0 ? one.age : what == 1 ? one.purse : one.alive ? 1 : 0;
        }
        int set = 0;
        for (int b = 0; b < now.birthdays.size(); b++) {
            Birthday x = now.birthdays.get(b);
            set += (what == 3 ? x.owner : x.user()) == p ? 1 << b : 0;
        }
        return set;
    }

    private int till(Birthday b) {
        int days = 1;
        while ((now.today + days) % year != b.day) {
            days++;
        }
        return days;
    }

    private int season(Birthday b) {
        return b.price + b.price * (year - till(b)) / year;
    }

    int birthday(int b, int what) {
        if (noBirthday(b)) {
            return UNKNOWN;
        }
        Birthday x = now.birthdays.get(b);
        switch (what) {
            case 0: return x.day;
            case 1: return x.owner;
            case 2: return x.price;
            case 3: return x.lentTo;
            case 4: return x.till;
            case 5: return x.user();
            case 6: return till(x);
            case 7: return season(x);
            default: return OUTSIDE;
        }
    }

    int good(int age) {
        return age < 0 || age > 999 ? OUTSIDE : good[age];
    }

    // ---- days, deals

    /** capped: ages end at 999; but: a birthday that ages nobody. */
    private void goBy(World w, boolean capped, int but) {
        w.today++;
        for (int b = 0; b < w.birthdays.size(); b++) {
            Birthday x = w.birthdays.get(b);
            if (x.day == w.today % year && x.user() != NONE && b != but) {
                Person p = w.persons.get(x.user());
                p.age = capped ? Math.min(999, p.age + 1) : p.age + 1;
            }
        }
        for (Birthday x : w.birthdays) {
            if (x.till == w.today) {
                x.till = NONE;
                x.lentTo = NONE;
            }
        }
    }

    int day(int n) {
        if (n < 1 || n > 9999) {
            return OUTSIDE;
        }
        for (int i = 0; i < n; i++) {
            goBy(now, true, NONE);
        }
        return now.today;
    }

    private boolean mayNot(int b, int p, int sum) {
        Birthday x = now.birthdays.get(b);
        return x.owner == NONE || x.lentTo != NONE || x.owner == p || !now.persons.get(p).alive
            || now.persons.get(p).purse < sum;
    }

    int sell(int b, int p, int sum) {
        if (noBirthday(b) || noPerson(p)) {
            return UNKNOWN;
        }
        if (sum < 0 || sum > 999) {
            return OUTSIDE;
        }
        if (mayNot(b, p, sum)) {
            return NOT;
        }
        now.persons.get(p).purse -= sum;
        now.persons.get(now.birthdays.get(b).owner).purse += sum;
        now.birthdays.get(b).owner = p;
        return now.persons.get(p).purse;
    }

    int lend(int b, int p, int n, int sum) {
        if (noBirthday(b) || noPerson(p)) {
            return UNKNOWN;
        }
        if (sum < 0 || sum > 999 || n < 1 || n > 9999) {
            return OUTSIDE;
        }
        if (mayNot(b, p, sum)) {
            return NOT;
        }
        now.persons.get(p).purse -= sum;
        now.persons.get(now.birthdays.get(b).owner).purse += sum;
        now.birthdays.get(b).lentTo = p;
        now.birthdays.get(b).till = now.today + n;
        return now.persons.get(p).purse;
    }

    int die(int p) {
        if (noPerson(p)) {
            return UNKNOWN;
        }
        Person dead = now.persons.get(p);
        if (!dead.alive) {
            return NOT;
        }
        dead.alive = false;
        int heir = NONE;
        for (int age = 0; age <= 999 && heir == NONE; age++) {
            for (int q = 0; q < now.persons.size() && heir == NONE; q++) {
                if (now.persons.get(q).alive && now.persons.get(q).age == age) {
                    heir = q;
                }
            }
        }
        for (Birthday x : now.birthdays) {
            boolean over = x.lentTo == p;
            if (x.owner == p) {
                x.owner = heir;
                over = over || x.lentTo == heir;
            }
            if (over) {
                x.lentTo = NONE;
                x.till = NONE;
            }
        }
        if (heir != NONE) {
            now.persons.get(heir).purse += dead.purse;
        }
        dead.purse = 0;
        return heir;
    }

    int begin() {
        int was = now.today;
        int seed = now.seed;
        now = told.copy();
        now.seed = seed;
        return was;
    }

    // ---- tried

    private int behind(int p, int n, boolean capped, int but) {
        World w = now.copy();
        for (int i = 0; i < n; i++) {
            goBy(w, capped, but);
        }
        return w.persons.get(p).age;
    }

    int foretold(int p, int n) {
        if (noPerson(p)) {
            return UNKNOWN;
        }
        return n < 0 || n > 99999 ? OUTSIDE : behind(p, n, true, NONE);
    }

    private int comes(Birthday b, int n) {
        int count = 0;
        for (int i = 1; i <= n; i++) {
            count += (now.today + i) % year == b.day ? 1 : 0;
        }
        return count;
    }

    int coin(int p, int v, int n, int what) {
        if (noPerson(p)) {
            return UNKNOWN;
        }
        if (v < 0 || v > 999 || n < 1 || n > 9999 || what < 0 || what > 1) {
            return OUTSIDE;
        }
        if (!now.persons.get(p).alive) {
            return NOT;
        }
        int best = Integer.MAX_VALUE;
        int bestSet = NONE;
        int own = behind(p, n, false, NONE) - now.persons.get(p).age;
        int count = now.birthdays.size();
        int[] comes = new int[count];
        for (int b = 0; b < count; b++) {
            comes[b] = comes(now.birthdays.get(b), n);
        }
        for (int set = 0; set < 1 << count; set++) {
            int years = own;
            int sum = 0;
            boolean can = true;
            for (int b = 0; b < count; b++) {
                if ((set >> b & 1) == 1) {
                    Birthday x = now.birthdays.get(b);
                    can = can && x.owner != NONE && x.owner != p && x.lentTo == NONE && comes[b] > 0;
                    years += comes[b];
                    sum += season(x);
                }
            }
            if (can && years == v && sum < best) {
                best = sum;
                bestSet = set;
            }
        }
        return bestSet == NONE ? NONE : what == 0 ? best : bestSet;
    }

    /** All rows of ageing, the first ones first; only for a few years. */
    int life(int p, int m, int i) {
        if (noPerson(p)) {
            return UNKNOWN;
        }
        if (m < 1 || m > 60) {
            return OUTSIDE;
        }
        if (i < -1 || i >= m) {
            return NONE;
        }
        int best = -1;
        int bestRow = 0;
        for (int row = 0; row < 1 << m; row++) {
            int age = now.persons.get(p).age;
            int sum = 0;
            for (int y = 0; y < m; y++) {
                age += row >> (m - 1 - y) & 1;
                sum += good[age];
            }
            if (sum > best) {
                best = sum;
                bestRow = row;
            }
        }
        return i == -1 ? best : bestRow >> (m - 1 - i) & 1;
    }

    int votes(int v) {
        if (v < 0 || v > 999) {
            return OUTSIDE;
        }
        int set = 0;
        for (int p = 0; p < now.persons.size(); p++) {
            set += now.persons.get(p).alive && now.persons.get(p).age >= v ? 1 << p : 0;
        }
        return set;
    }

    private int[] way;
    private int[] bestWay;
    private int bestSum;
    private int[] wayComes;

    int given(int k, int v, int n, int b) {
        if (b != NONE && noBirthday(b)) {
            return UNKNOWN;
        }
        if (k < 0 || k > 6 || v < 0 || v > 999 || n < 1 || n > 9999) {
            return OUTSIDE;
        }
        if (told(5) == 0) {
            return NOT;
        }
        way = new int[now.birthdays.size()];
        wayComes = new int[way.length];
        for (int i = 0; i < way.length; i++) {
            wayComes[i] = comes(now.birthdays.get(i), n);
        }
        bestWay = null;
        bestSum = Integer.MAX_VALUE;
        int[] then = new int[now.persons.size()];
        for (int p = 0; p < then.length; p++) {
            then[p] = now.persons.get(p).age;
        }
        tryWays(0, 0, then, k, v);
        return bestWay == null ? NONE : b == NONE ? bestSum : bestWay[b];
    }

    private void tryWays(int b, int sum, int[] then, int k, int v) {
        if (b == way.length) {
            int old = 0;
            for (int p = 0; p < then.length; p++) {
                old += now.persons.get(p).alive && Math.min(999, then[p]) >= v ? 1 : 0;
            }
            if (old >= k && sum < bestSum) {
                bestSum = sum;
                bestWay = way.clone();
            }
            return;
        }
        for (int p = 0; p < then.length; p++) {
            if (now.persons.get(p).alive) {
                way[b] = p;
                then[p] += wayComes[b];
                Birthday x = now.birthdays.get(b);
                tryWays(b + 1, sum + (x.user() == p ? 0 : x.price), then, k, v);
                then[p] -= wayComes[b];
            }
        }
    }

    private int worth(int[] owner, int b, int p) {
        int without = 0;
        for (int i = 0; i < owner.length; i++) {
            without += i != b && owner[i] == p ? 1 : 0;
        }
        int age = now.persons.get(p).age;
        return good[age + without + 1] - good[age + without];
    }

    int rests(int b) {
        if (b != NONE && noBirthday(b)) {
            return UNKNOWN;
        }
        int[] owner = new int[now.birthdays.size()];
        for (int i = 0; i < owner.length; i++) {
            owner[i] = now.birthdays.get(i).owner;
        }
        int times = 0;
        boolean moved = true;
        while (moved && times < 40) {
            moved = false;
            for (int i = 0; i < owner.length && !moved; i++) {
                if (owner[i] == NONE) {
                    continue;
                }
                int to = owner[i];
                for (int p = now.persons.size() - 1; p >= 0; p--) {
                    if (now.persons.get(p).alive && p != owner[i] && worth(owner, i, p) > worth(owner, i, owner[i])
                        && (to == owner[i] || worth(owner, i, p) >= worth(owner, i, to))) {
                        to = p;
                    }
                }
                moved = to != owner[i];
                owner[i] = to;
            }
            times += moved ? 1 : 0;
        }
        return b == NONE ? times : owner[b];
    }

    // ---- told ages

    int tell(int p, int n, int age) {
        if (noPerson(p)) {
            return UNKNOWN;
        }
        if (n < 0 || n > 9999 || age < 0 || age > 999) {
            return OUTSIDE;
        }
        if (ages.size() == 20) {
            return FULL;
        }
        ages.add(new int[] {p, n, age});
        return ages.size();
    }

    int tear() {
        int were = ages.size();
        ages.clear();
        return were;
    }

    private int wrong(int but) {
        for (int i = 0; i < ages.size(); i++) {
            int[] a = ages.get(i);
            if (behind(a[0], a[1], true, but) != a[2]) {
                return i;
            }
        }
        return NONE;
    }

    int judge() {
        return wrong(NONE);
    }

    int forged() {
        int set = 0;
        for (int b = 0; b < now.birthdays.size(); b++) {
            set += wrong(b) == NONE ? 1 << b : 0;
        }
        return set;
    }

    // ---- draws, images

    private int draw(int n) {
        now.seed = (int) ((now.seed * 1103515245L + 12345L) % 2147483648L);
        return now.seed / 65536 % n;
    }

    int drift(int n) {
        if (n < 1 || n > 999) {
            return OUTSIDE;
        }
        if (now.persons.isEmpty()) {
            return NOT;
        }
        for (int i = 0; i < n; i++) {
            if (!now.birthdays.isEmpty() && draw(4) == 0) {
                int b = draw(now.birthdays.size());
                int p = draw(now.persons.size());
                sell(b, p, season(now.birthdays.get(b)));
            }
            goBy(now, true, NONE);
        }
        return now.today;
    }

    int seed(int v) {
        if (v < 0) {
            return OUTSIDE;
        }
        int was = now.seed;
        now.seed = v;
        return was;
    }

    int keep(int i) {
        if (i < 0 || i > 1) {
            return UNKNOWN;
        }
        images[i] = now.copy();
        return 1;
    }

    int goBack(int i) {
        if (i < 0 || i > 1) {
            return UNKNOWN;
        }
        if (images[i] == null) {
            return NOT;
        }
        now = images[i].copy();
        return 1;
    }
}
