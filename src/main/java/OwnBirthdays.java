import java.util.Arrays;

/** A land in which a birthday is a thing: owned, sold, lent, inherited; who has none does not age. */
public final class OwnBirthdays {
    public static final int NONE = -1, UNKNOWN = -1000000001, OUTSIDE = -1000000002, NOT = -1000000003, FULL = -1000000004;

    private static final int MOST_BYTES = 500;
    private static final int MOST_PERSONS = 6;
    private static final int MOST_BIRTHDAYS = 8;
    private static final int MOST_GOODS = 10;
    private static final int MOST_TOLD_AGES = 20;
    private static final int MOST_MOVES = 40;
    private static final int MOST_LIFE_YEARS = 60;
    private static final int USUAL_YEAR = 12;
    private static final int OLDEST_TOLD = 120;
    private static final int OLDEST = 999;
    private static final int BIRTHDAY_SETS = 1 << MOST_BIRTHDAYS;

    private static final int CANNOT_STAND = 1;
    private static final int BAD_NUMBER = 2;
    private static final int TOO_MANY = 3;
    private static final int AGE_AGAIN = 4;

    private final LandReader reader;
    private final Land theLand;
    private final State now;
    private final State firstImage;
    private final State secondImage;
    private final ToldAges toldAges;
    private final CoinSearch coins;
    private final LifePlan lifePlan;
    private final Giving giving;
    private final Resting resting;
    private int keptImages;
    private int faultPlace;

    public OwnBirthdays() {
        reader = new LandReader();
        theLand = new Land();
        now = new State(theLand);
        firstImage = new State(theLand);
        secondImage = new State(theLand);
        toldAges = new ToldAges();
        coins = new CoinSearch();
        lifePlan = new LifePlan();
        giving = new Giving();
        resting = new Resting();
        keptImages = 0;
        faultPlace = NONE;
    }

    // ---- the land

    public int feed(int n, long bytes) {
        if (isOutside(n, 1, 8)) {
            return OUTSIDE;
        }
        if (!reader.hasRoom(n)) {
            return FULL;
        }
        reader.append(n, bytes);
        return reader.length;
    }

    public int land() {
        int fault = reader.readAll();
        faultPlace = reader.faultPlace;
        if (fault != 0) {
            return -10 - fault;
        }
        theLand.becomeLike(reader.draft);
        now.startAnew();
        toldAges.count = 0;
        keptImages = 0;
        return theLand.persons;
    }

    public int fault() {
        return faultPlace;
    }

    public int told(int what) {
        switch (what) {
            case 0: return theLand.yearDays;
            case 1: return theLand.persons;
            case 2: return theLand.birthdays;
            case 3: return reader.length;
            case 4: return now.today;
            case 5: return now.living;
            case 6: return now.lentSet();
            case 7: return toldAges.count;
            default: return OUTSIDE;
        }
    }

    public int person(int p, int what) {
        if (!theLand.hasPerson(p)) {
            return UNKNOWN;
        }
        switch (what) {
            case 0: return now.age[p];
            case 1: return now.purse[p];
            case 2: return now.lives(p) ? 1 : 0;
            case 3: return now.ownedSet(p);
            case 4: return now.usedSet(p);
            default: return OUTSIDE;
        }
    }

    public int birthday(int b, int what) {
        if (!theLand.hasBirthday(b)) {
            return UNKNOWN;
        }
        switch (what) {
            case 0: return theLand.dayOf[b];
            case 1: return now.owner[b];
            case 2: return theLand.price[b];
            case 3: return now.borrower[b];
            case 4: return now.lentTill[b];
            case 5: return now.userOf(b);
            case 6: return now.daysTill(b);
            case 7: return now.seasonOf(b);
            default: return OUTSIDE;
        }
    }

    public int good(int age) {
        if (isOutside(age, 0, OLDEST)) {
            return OUTSIDE;
        }
        return theLand.goodOf(age);
    }

    // ---- days, deals

    public int day(int n) {
        if (isOutside(n, 1, 9999)) {
            return OUTSIDE;
        }
        now.passDays(n);
        return now.today;
    }

    public int sell(int b, int p, int sum) {
        if (!theLand.hasBirthday(b) || !theLand.hasPerson(p)) {
            return UNKNOWN;
        }
        if (isOutside(sum, 0, 999)) {
            return OUTSIDE;
        }
        if (!now.mayDeal(b, p, sum)) {
            return NOT;
        }
        now.sellTo(b, p, sum);
        return now.purse[p];
    }

    public int lend(int b, int p, int n, int sum) {
        if (!theLand.hasBirthday(b) || !theLand.hasPerson(p)) {
            return UNKNOWN;
        }
        if (isOutside(n, 1, 9999) || isOutside(sum, 0, 999)) {
            return OUTSIDE;
        }
        if (!now.mayDeal(b, p, sum)) {
            return NOT;
        }
        now.lendTo(b, p, n, sum);
        return now.purse[p];
    }

    public int die(int p) {
        if (!theLand.hasPerson(p)) {
            return UNKNOWN;
        }
        if (!now.lives(p)) {
            return NOT;
        }
        return now.endLife(p);
    }

    public int begin() {
        int was = now.today;
        now.startAnew();
        return was;
    }

    // ---- tried

    public int foretold(int p, int n) {
        if (!theLand.hasPerson(p)) {
            return UNKNOWN;
        }
        if (isOutside(n, 0, 99999)) {
            return OUTSIDE;
        }
        return now.ageBehind(p, n, NONE);
    }

    public int coin(int p, int v, int n, int what) {
        if (!theLand.hasPerson(p)) {
            return UNKNOWN;
        }
        if (isOutside(v, 0, 999) || isOutside(n, 1, 9999) || isOutside(what, 0, 1)) {
            return OUTSIDE;
        }
        if (!now.lives(p)) {
            return NOT;
        }
        coins.search(now, p, v, n);
        return what == 0 ? coins.leastSum : coins.leastSet;
    }

    public int life(int p, int m, int i) {
        if (!theLand.hasPerson(p)) {
            return UNKNOWN;
        }
        if (isOutside(m, 1, MOST_LIFE_YEARS)) {
            return OUTSIDE;
        }
        if (i < NONE || i >= m) {
            return NONE;
        }
        lifePlan.make(theLand, now.age[p], m);
        return i == NONE ? lifePlan.greatestSum() : lifePlan.agesIn(i);
    }

    public int votes(int v) {
        if (isOutside(v, 0, 999)) {
            return OUTSIDE;
        }
        int set = 0;
        for (int p = 0; p < theLand.persons; p++) {
            if (now.lives(p) && now.age[p] >= v) {
                set |= 1 << p;
            }
        }
        return set;
    }

    public int given(int k, int v, int n, int b) {
        if (b != NONE && !theLand.hasBirthday(b)) {
            return UNKNOWN;
        }
        if (isOutside(k, 0, MOST_PERSONS) || isOutside(v, 0, 999) || isOutside(n, 1, 9999)) {
            return OUTSIDE;
        }
        if (now.living == 0) {
            return NOT;
        }
        if (!giving.search(now, k, v, n)) {
            return NONE;
        }
        return b == NONE ? giving.leastSum() : giving.receiverOf(b);
    }

    public int rests(int b) {
        if (b != NONE && !theLand.hasBirthday(b)) {
            return UNKNOWN;
        }
        resting.run(now);
        return b == NONE ? resting.moves : resting.owner[b];
    }

    // ---- told ages

    public int tell(int p, int n, int age) {
        if (!theLand.hasPerson(p)) {
            return UNKNOWN;
        }
        if (isOutside(n, 0, 9999) || isOutside(age, 0, OLDEST)) {
            return OUTSIDE;
        }
        if (toldAges.count >= MOST_TOLD_AGES) {
            return FULL;
        }
        toldAges.add(p, n, age);
        return toldAges.count;
    }

    public int tear() {
        int were = toldAges.count;
        toldAges.count = 0;
        return were;
    }

    public int judge() {
        return toldAges.firstWrong(now, NONE);
    }

    public int forged() {
        int set = 0;
        for (int b = 0; b < theLand.birthdays; b++) {
            if (toldAges.firstWrong(now, b) == NONE) {
                set |= 1 << b;
            }
        }
        return set;
    }

    // ---- draws, images

    public int drift(int n) {
        if (isOutside(n, 1, 999)) {
            return OUTSIDE;
        }
        if (theLand.persons == 0) {
            return NOT;
        }
        now.passDaysByDraws(n);
        return now.today;
    }

    public int seed(int v) {
        if (v < 0) {
            return OUTSIDE;
        }
        int was = now.seed;
        now.seed = v;
        return was;
    }

    public int keep(int i) {
        if (isOutside(i, 0, 1)) {
            return UNKNOWN;
        }
        imageOf(i).becomeLike(now);
        keptImages |= 1 << i;
        return 1;
    }

    public int goBack(int i) {
        if (isOutside(i, 0, 1)) {
            return UNKNOWN;
        }
        if ((keptImages >> i & 1) == 0) {
            return NOT;
        }
        now.becomeLike(imageOf(i));
        return 1;
    }

    private State imageOf(int i) {
        return i == 0 ? firstImage : secondImage;
    }

    private static boolean isOutside(int number, int least, int most) {
        return number < least || number > most;
    }

    /** What the text tells; it stays until another text is told. */
    private static final class Land {
        private static final int UNTOLD = -1;

        final int[] startAge;
        final int[] startPurse;
        final int[] dayOf;
        final int[] startOwner;
        final int[] price;
        final int[] good;
        int yearDays;
        int persons;
        int birthdays;
        int goods;

        Land() {
            startAge = new int[MOST_PERSONS];
            startPurse = new int[MOST_PERSONS];
            dayOf = new int[MOST_BIRTHDAYS];
            startOwner = new int[MOST_BIRTHDAYS];
            price = new int[MOST_BIRTHDAYS];
            good = new int[OLDEST_TOLD + 1];
            clearAll();
        }

        void clearAll() {
            yearDays = USUAL_YEAR;
            persons = 0;
            birthdays = 0;
            goods = 0;
            Arrays.fill(good, UNTOLD);
        }

        void becomeLike(Land other) {
            yearDays = other.yearDays;
            persons = other.persons;
            birthdays = other.birthdays;
            goods = other.goods;
            System.arraycopy(other.startAge, 0, startAge, 0, MOST_PERSONS);
            System.arraycopy(other.startPurse, 0, startPurse, 0, MOST_PERSONS);
            System.arraycopy(other.dayOf, 0, dayOf, 0, MOST_BIRTHDAYS);
            System.arraycopy(other.startOwner, 0, startOwner, 0, MOST_BIRTHDAYS);
            System.arraycopy(other.price, 0, price, 0, MOST_BIRTHDAYS);
            System.arraycopy(other.good, 0, good, 0, OLDEST_TOLD + 1);
        }

        boolean hasPerson(int p) {
            return p >= 0 && p < persons;
        }

        boolean hasBirthday(int b) {
            return b >= 0 && b < birthdays;
        }

        boolean isEmpty() {
            return persons == 0 && birthdays == 0 && goods == 0;
        }

        boolean tellsGoodOf(int age) {
            return age >= 0 && age <= OLDEST_TOLD && good[age] != UNTOLD;
        }

        int goodOf(int age) {
            return tellsGoodOf(age) ? good[age] : 0;
        }

        void addPerson(int age, int purse) {
            if (persons < MOST_PERSONS) {
                startAge[persons] = age;
                startPurse[persons] = purse;
                persons++;
            }
        }

        void addBirthday(int day, int person, int cost) {
            if (birthdays < MOST_BIRTHDAYS) {
                dayOf[birthdays] = day;
                startOwner[birthdays] = person;
                price[birthdays] = cost;
                birthdays++;
            }
        }

        void addGood(int age, int worth) {
            if (age >= 0 && age <= OLDEST_TOLD) {
                good[age] = worth;
                goods++;
            }
        }
    }

    /** Holds the text and reads it from its first byte on, up to its first fault, into a draft of the land. */
    private static final class LandReader {
        final byte[] text;
        final Land draft;
        int length;
        int at;
        int fault;
        int faultPlace;
        int numberPlace;
        boolean yearTold;

        LandReader() {
            text = new byte[MOST_BYTES];
            draft = new Land();
            faultPlace = NONE;
        }

        boolean hasRoom(int n) {
            return n <= MOST_BYTES - length;
        }

        void append(int n, long bytes) {
            for (int i = n - 1; i >= 0 && length < MOST_BYTES; i--) {
                text[length] = (byte) (bytes >>> (8 * i));
                length++;
            }
        }

        /** Empties the text, too; answers the number of its fault, 0 without one. */
        int readAll() {
            at = 0;
            fault = 0;
            faultPlace = NONE;
            yearTold = false;
            draft.clearAll();
            skipBlanks();
            for (int i = 0; i < MOST_BYTES && at < length && fault == 0; i++) {
                readClause();
                skipBlanks();
            }
            length = 0;
            return fault;
        }

        private void readClause() {
            int start = at;
            skipLetters();
            if (isWord(start, "year")) {
                readYear(start);
            } else if (isWord(start, "person")) {
                readPerson(start);
            } else if (isWord(start, "birthday")) {
                readBirthday(start);
            } else if (isWord(start, "good")) {
                readGood(start);
            } else {
                setFault(CANNOT_STAND, start);
            }
        }

        private void readYear(int start) {
            if (!draft.isEmpty()) {
                setFault(CANNOT_STAND, start);
            } else if (yearTold) {
                setFault(TOO_MANY, start);
            }
            int days = readNumber(2, 60);
            readEnd();
            if (fault == 0) {
                draft.yearDays = days;
                yearTold = true;
            }
        }

        private void readPerson(int start) {
            if (draft.persons >= MOST_PERSONS) {
                setFault(TOO_MANY, start);
            }
            int age = readNumber(0, OLDEST_TOLD);
            int purse = readNumber(0, 999);
            readEnd();
            if (fault == 0) {
                draft.addPerson(age, purse);
            }
        }

        private void readBirthday(int start) {
            if (draft.birthdays >= MOST_BIRTHDAYS) {
                setFault(TOO_MANY, start);
            }
            int day = readNumber(0, draft.yearDays - 1);
            int person = readNumber(0, draft.persons - 1);
            int cost = readNumber(1, 99);
            readEnd();
            if (fault == 0) {
                draft.addBirthday(day, person, cost);
            }
        }

        private void readGood(int start) {
            if (draft.goods >= MOST_GOODS) {
                setFault(TOO_MANY, start);
            }
            int age = readNumber(0, OLDEST_TOLD);
            if (fault == 0 && draft.tellsGoodOf(age)) {
                setFault(AGE_AGAIN, numberPlace);
            }
            int worth = readNumber(0, 99);
            readEnd();
            if (fault == 0) {
                draft.addGood(age, worth);
            }
        }

        private int readNumber(int least, int most) {
            if (fault != 0) {
                return 0;
            }
            skipBlanks();
            numberPlace = at;
            int value = 0;
            while (at < length && isFigure(text[at])) {
                // a fourth figure is a fault already: what comes behind it must not wrap the value around
                if (at - numberPlace < 4) {
                    value = value * 10 + (text[at] - '0');
                }
                at++;
            }
            int figures = at - numberPlace;
            if (figures == 0) {
                setFault(CANNOT_STAND, at);
            } else if (figures > 3 || isOutside(value, least, most)) {
                setFault(BAD_NUMBER, numberPlace);
            }
            return value;
        }

        private void readEnd() {
            if (fault != 0) {
                return;
            }
            skipBlanks();
            if (at < length && text[at] == ';') {
                at++;
            } else {
                setFault(CANNOT_STAND, at);
            }
        }

        private void setFault(int number, int place) {
            if (fault == 0) {
                fault = number;
                faultPlace = place;
            }
        }

        private void skipBlanks() {
            while (at < length && text[at] == ' ') {
                at++;
            }
        }

        private void skipLetters() {
            while (at < length && text[at] >= 'a' && text[at] <= 'z') {
                at++;
            }
        }

        private boolean isWord(int start, String word) {
            if (at - start != word.length()) {
                return false;
            }
            for (int i = start; i < at; i++) {
                if (text[i] != word.charAt(i - start)) {
                    return false;
                }
            }
            return true;
        }

        private static boolean isFigure(int sign) {
            return sign >= '0' && sign <= '9';
        }
    }

    /** What is so on a day: all that an image keeps. */
    private static final class State {
        final Land land;
        final int[] age;
        final int[] purse;
        final int[] owner;
        final int[] borrower;
        final int[] lentTill;
        int living;
        int today;
        int seed;

        State(Land land) {
            this.land = land;
            age = new int[MOST_PERSONS];
            purse = new int[MOST_PERSONS];
            owner = new int[MOST_BIRTHDAYS];
            borrower = new int[MOST_BIRTHDAYS];
            lentTill = new int[MOST_BIRTHDAYS];
        }

        void startAnew() {
            System.arraycopy(land.startAge, 0, age, 0, MOST_PERSONS);
            System.arraycopy(land.startPurse, 0, purse, 0, MOST_PERSONS);
            System.arraycopy(land.startOwner, 0, owner, 0, MOST_BIRTHDAYS);
            Arrays.fill(borrower, NONE);
            Arrays.fill(lentTill, NONE);
            living = (1 << land.persons) - 1;
            today = 0;
        }

        void becomeLike(State other) {
            System.arraycopy(other.age, 0, age, 0, MOST_PERSONS);
            System.arraycopy(other.purse, 0, purse, 0, MOST_PERSONS);
            System.arraycopy(other.owner, 0, owner, 0, MOST_BIRTHDAYS);
            System.arraycopy(other.borrower, 0, borrower, 0, MOST_BIRTHDAYS);
            System.arraycopy(other.lentTill, 0, lentTill, 0, MOST_BIRTHDAYS);
            living = other.living;
            today = other.today;
            seed = other.seed;
        }

        boolean lives(int p) {
            return land.hasPerson(p) && (living >> p & 1) == 1;
        }

        boolean isLent(int b) {
            return borrower[b] != NONE;
        }

        int userOf(int b) {
            return isLent(b) ? borrower[b] : owner[b];
        }

        int lentSet() {
            int set = 0;
            for (int b = 0; b < land.birthdays; b++) {
                if (isLent(b)) {
                    set |= 1 << b;
                }
            }
            return set;
        }

        int ownedSet(int p) {
            int set = 0;
            for (int b = 0; b < land.birthdays; b++) {
                if (owner[b] == p) {
                    set |= 1 << b;
                }
            }
            return set;
        }

        int usedSet(int p) {
            int set = 0;
            for (int b = 0; b < land.birthdays; b++) {
                if (userOf(b) == p) {
                    set |= 1 << b;
                }
            }
            return set;
        }

        int daysTill(int b) {
            int year = land.yearDays;
            if (year < 1) {
                return 1;
            }
            int left = (land.dayOf[b] + year - today % year) % year;
            return left == 0 ? year : left;
        }

        int seasonOf(int b) {
            int year = land.yearDays;
            if (year < 1) {
                return land.price[b];
            }
            return land.price[b] + land.price[b] * (year - daysTill(b)) / year;
        }

        /** How often a birthday comes in the next n days. */
        int comings(int b, int n) {
            int year = land.yearDays;
            if (n < 1 || year < 1) {
                return 0;
            }
            int till = daysTill(b);
            return n < till ? 0 : 1 + (n - till) / year;
        }

        /** In how many of the next n days it is lent still. */
        int daysLent(int b, int n) {
            return isLent(b) ? Math.min(n, lentTill[b] - today) : 0;
        }

        /** By how many years it makes a person older in the next n days, if loans only end. */
        int yearsFor(int b, int p, int n) {
            if (p == owner[b]) {
                return comings(b, n) - comings(b, daysLent(b, n));
            }
            return p == borrower[b] ? comings(b, daysLent(b, n)) : 0;
        }

        /** Likewise all birthdays but one that ages nobody (NONE: all of them). */
        int yearsBehind(int p, int n, int butFor) {
            int years = 0;
            for (int b = 0; b < land.birthdays; b++) {
                if (b != butFor) {
                    years += yearsFor(b, p, n);
                }
            }
            return years;
        }

        int ageBehind(int p, int n, int butFor) {
            return Math.min(OLDEST, age[p] + yearsBehind(p, n, butFor));
        }

        void passDays(int n) {
            for (int b = 0; b < land.birthdays; b++) {
                int whileLent = comings(b, daysLent(b, n));
                growOlder(borrower[b], whileLent);
                growOlder(owner[b], comings(b, n) - whileLent);
            }
            today += n;
            for (int b = 0; b < land.birthdays; b++) {
                if (isLent(b) && lentTill[b] <= today) {
                    endLoan(b);
                }
            }
        }

        private void growOlder(int p, int years) {
            if (land.hasPerson(p)) {
                age[p] = Math.min(OLDEST, age[p] + years);
            }
        }

        private void endLoan(int b) {
            borrower[b] = NONE;
            lentTill[b] = NONE;
        }

        boolean mayDeal(int b, int p, int sum) {
            return owner[b] != NONE && owner[b] != p && !isLent(b) && lives(p) && purse[p] >= sum;
        }

        void sellTo(int b, int p, int sum) {
            payOwner(b, p, sum);
            owner[b] = p;
        }

        void lendTo(int b, int p, int n, int sum) {
            payOwner(b, p, sum);
            borrower[b] = p;
            lentTill[b] = today + n;
        }

        private void payOwner(int b, int p, int sum) {
            if (land.hasPerson(owner[b])) {
                purse[p] -= sum;
                purse[owner[b]] += sum;
            }
        }

        /** Answers who has all then. */
        int endLife(int p) {
            living &= ~(1 << p);
            int heir = youngestAlive();
            for (int b = 0; b < land.birthdays; b++) {
                if (borrower[b] == p) {
                    endLoan(b);
                }
                if (owner[b] == p) {
                    owner[b] = heir;
                    if (borrower[b] == heir) {
                        endLoan(b);
                    }
                }
            }
            if (land.hasPerson(heir)) {
                purse[heir] += purse[p];
            }
            purse[p] = 0;
            return heir;
        }

        private int youngestAlive() {
            int youngest = NONE;
            for (int p = 0; p < land.persons; p++) {
                if (lives(p) && (youngest == NONE || age[p] < age[youngest])) {
                    youngest = p;
                }
            }
            return youngest;
        }

        /** Days without a deal go by in one row: nothing looks at them one by one. */
        void passDaysByDraws(int n) {
            int waiting = 0;
            for (int i = 0; i < n; i++) {
                if (land.birthdays > 0 && draw(4) == 0) {
                    passDays(waiting);
                    waiting = 0;
                    sellByDraws();
                }
                waiting++;
            }
            passDays(waiting);
        }

        private void sellByDraws() {
            int b = draw(land.birthdays);
            int p = draw(land.persons);
            int sum = seasonOf(b);
            if (mayDeal(b, p, sum)) {
                sellTo(b, p, sum);
            }
        }

        private int draw(int n) {
            if (n < 1) {
                return 0;
            }
            seed = (int) (seed * 1103515245L + 12345L & Integer.MAX_VALUE);
            return seed / 65536 % n;
        }
    }

    /** Ages told for days from now: each is looked at from the day on which it is judged. */
    private static final class ToldAges {
        final int[] person;
        final int[] days;
        final int[] age;
        int count;

        ToldAges() {
            person = new int[MOST_TOLD_AGES];
            days = new int[MOST_TOLD_AGES];
            age = new int[MOST_TOLD_AGES];
        }

        void add(int p, int n, int toldAge) {
            if (count < MOST_TOLD_AGES) {
                person[count] = p;
                days[count] = n;
                age[count] = toldAge;
                count++;
            }
        }

        int firstWrong(State now, int butFor) {
            for (int i = 0; i < count; i++) {
                if (now.ageBehind(person[i], days[i], butFor) != age[i]) {
                    return i;
                }
            }
            return NONE;
        }
    }

    /** The least sum for which a person borrows just as many years as it lacks. */
    private static final class CoinSearch {
        final int[] years;
        final int[] sum;
        int leastSum;
        int leastSet;

        CoinSearch() {
            years = new int[MOST_BIRTHDAYS];
            sum = new int[MOST_BIRTHDAYS];
        }

        void search(State now, int p, int v, int n) {
            leastSum = NONE;
            leastSet = NONE;
            int lacking = v - now.yearsBehind(p, n, NONE);
            int free = freeFor(now, p, n);
            // the sets come from the least on, so only a lesser sum takes the place of an earlier one
            for (int set = 0; set <= free; set++) {
                if ((set & ~free) == 0 && totalOf(years, set) == lacking) {
                    int cost = totalOf(sum, set);
                    if (leastSum == NONE || cost < leastSum) {
                        leastSum = cost;
                        leastSet = set;
                    }
                }
            }
        }

        private int freeFor(State now, int p, int n) {
            int free = 0;
            for (int b = 0; b < now.land.birthdays; b++) {
                years[b] = now.comings(b, n);
                sum[b] = now.seasonOf(b);
                if (now.owner[b] != NONE && now.owner[b] != p && !now.isLent(b) && years[b] > 0) {
                    free |= 1 << b;
                }
            }
            return free;
        }

        private static int totalOf(int[] row, int set) {
            int total = 0;
            for (int b = 0; b < row.length; b++) {
                if ((set >> b & 1) == 1) {
                    total += row[b];
                }
            }
            return total;
        }
    }

    /** In which years to age: the greatest sum first, then not ageing ahead of ageing. */
    private static final class LifePlan {
        /** The greatest sum of the years left, by how many years older one is at their beginning. */
        final int[] best;
        /** By year: a set of how many years older one may be at its beginning to age in it. */
        final long[] ageing;

        LifePlan() {
            best = new int[MOST_LIFE_YEARS + 1];
            ageing = new long[MOST_LIFE_YEARS];
        }

        void make(Land land, int age, int years) {
            Arrays.fill(best, 0);
            for (int year = Math.min(years, MOST_LIFE_YEARS) - 1; year >= 0; year--) {
                long grown = 0;
                for (int older = 0; older <= year; older++) {
                    int stay = land.goodOf(age + older) + best[older];
                    int grow = land.goodOf(age + older + 1) + best[older + 1];
                    if (grow > stay) {
                        grown |= 1L << older;
                    }
                    best[older] = Math.max(stay, grow);
                }
                ageing[year] = grown;
            }
        }

        int greatestSum() {
            return best[0];
        }

        int agesIn(int year) {
            int older = 0;
            int grows = 0;
            for (int i = 0; i <= year && i < MOST_LIFE_YEARS; i++) {
                grows = (int) (ageing[i] >> older & 1);
                older += grows;
            }
            return grows;
        }
    }

    /**
     * Gives each birthday to somebody at the least rank: a way's rank is its sum times WAYS and, below that,
     * its persons as figures to the base of six, so that of like sums the first way has the least rank.
     */
    private static final class Giving {
        private static final long WAYS = 1679616;
        private static final long UNREACHED = Long.MAX_VALUE;
        private static final int[] FIGURE = {279936, 46656, 7776, 1296, 216, 36, 6, 1};

        /** By a set of birthdays: the years that they give. */
        final int[] years;
        /** By a set of birthdays: how much more than left as it is it ranks, given to the person at hand. */
        final long[] more;
        /** The least sets of birthdays that make the person at hand old enough. */
        final int[] enough;
        /** By how many are made old enough and by which birthdays: the least that it ranks more. */
        final long[] best;
        int sets;
        int enoughCount;
        long rank;

        Giving() {
            years = new int[BIRTHDAY_SETS];
            more = new long[BIRTHDAY_SETS];
            enough = new int[BIRTHDAY_SETS];
            best = new long[(MOST_PERSONS + 1) * BIRTHDAY_SETS];
        }

        /** Whether there is a way; it is found by its rank. */
        boolean search(State now, int k, int v, int n) {
            int lacking = k - countOldEnough(now, v);
            rank = rankLeft(now);
            if (lacking <= 0) {
                return true;
            }
            sets = 1 << now.land.birthdays;
            addUpYears(now, n);
            Arrays.fill(best, UNREACHED);
            best[0] = 0;
            for (int p = 0; p < now.land.persons; p++) {
                if (now.lives(p) && now.age[p] < v) {
                    addUpRanks(now, p);
                    findEnough(v - now.age[p]);
                    tryPerson(lacking);
                }
            }
            long least = leastOf(lacking);
            if (least == UNREACHED) {
                return false;
            }
            rank += least;
            return true;
        }

        int leastSum() {
            return (int) (rank / WAYS);
        }

        int receiverOf(int b) {
            if (b < 0 || b >= FIGURE.length) {
                return NONE;
            }
            int figure = FIGURE[b];
            return figure < 1 ? NONE : (int) (rank % WAYS / figure % MOST_PERSONS);
        }

        private static int countOldEnough(State now, int v) {
            int count = 0;
            for (int p = 0; p < now.land.persons; p++) {
                if (now.lives(p) && now.age[p] >= v) {
                    count++;
                }
            }
            return count;
        }

        /** To whom it goes if nobody needs it: its user costs nothing. */
        private static int leftTo(State now, int b) {
            int user = now.userOf(b);
            return now.lives(user) ? user : Integer.numberOfTrailingZeros(now.living);
        }

        private static long rankOf(State now, int b, int p) {
            long cost = now.userOf(b) == p ? 0 : now.land.price[b];
            return cost * WAYS + (long) p * FIGURE[b];
        }

        private static long rankLeft(State now) {
            long total = 0;
            for (int b = 0; b < now.land.birthdays; b++) {
                total += rankOf(now, b, leftTo(now, b));
            }
            return total;
        }

        private void addUpYears(State now, int n) {
            years[0] = 0;
            for (int b = 0; b < now.land.birthdays; b++) {
                int comings = now.comings(b, n);
                for (int set = 0; set < 1 << b; set++) {
                    years[set | 1 << b] = years[set] + comings;
                }
            }
        }

        private void addUpRanks(State now, int p) {
            more[0] = 0;
            for (int b = 0; b < now.land.birthdays; b++) {
                long one = rankOf(now, b, p) - rankOf(now, b, leftTo(now, b));
                for (int set = 0; set < 1 << b; set++) {
                    more[set | 1 << b] = more[set] + one;
                }
            }
        }

        private void findEnough(int need) {
            enoughCount = 0;
            for (int set = 0; set < sets; set++) {
                if (isJustEnough(set, need)) {
                    enough[enoughCount] = set;
                    enoughCount++;
                }
            }
        }

        /** A set from which none can be spared: what is spared never ranks more when it is left as it is. */
        private boolean isJustEnough(int set, int need) {
            if (years[set] < need) {
                return false;
            }
            for (int b = 0; b < MOST_BIRTHDAYS; b++) {
                if ((set >> b & 1) == 1 && years[set & ~(1 << b)] >= need) {
                    return false;
                }
            }
            return true;
        }

        /** From the greatest count down, so that the person at hand is counted once. */
        private void tryPerson(int lacking) {
            for (int count = Math.min(lacking, MOST_PERSONS) - 1; count >= 0; count--) {
                for (int taken = 0; taken < sets; taken++) {
                    long soFar = best[count * BIRTHDAY_SETS + taken];
                    if (soFar != UNREACHED) {
                        tryEnough(count + 1, taken, soFar);
                    }
                }
            }
        }

        private void tryEnough(int count, int taken, long soFar) {
            for (int i = 0; i < enoughCount; i++) {
                int set = enough[i];
                if ((set & taken) == 0) {
                    int place = count * BIRTHDAY_SETS + (set | taken);
                    best[place] = Math.min(best[place], soFar + more[set]);
                }
            }
        }

        private long leastOf(int count) {
            long least = UNREACHED;
            for (int taken = 0; taken < sets; taken++) {
                least = Math.min(least, best[count * BIRTHDAY_SETS + taken]);
            }
            return least;
        }
    }

    /** Changes of hands, tried on a row of its own until nobody gains by any. */
    private static final class Resting {
        final int[] owner;
        final int[] owned;
        int moves;

        Resting() {
            owner = new int[MOST_BIRTHDAYS];
            owned = new int[MOST_PERSONS];
        }

        void run(State now) {
            moves = 0;
            System.arraycopy(now.owner, 0, owner, 0, MOST_BIRTHDAYS);
            for (int p = 0; p < MOST_PERSONS; p++) {
                owned[p] = Integer.bitCount(now.ownedSet(p));
            }
            while (moves < MOST_MOVES && moveFirst(now)) {
                moves++;
            }
        }

        private boolean moveFirst(State now) {
            for (int b = 0; b < now.land.birthdays; b++) {
                int from = owner[b];
                int to = gainer(now, from);
                if (now.land.hasPerson(from) && now.land.hasPerson(to)) {
                    owned[from]--;
                    owned[to]++;
                    owner[b] = to;
                    return true;
                }
            }
            return false;
        }

        /** To whom one of an owner's birthdays is worth most, and more than to the owner; NONE. */
        private int gainer(State now, int from) {
            if (!now.land.hasPerson(from)) {
                return NONE;
            }
            int to = NONE;
            int most = worthOfNext(now, from, owned[from] - 1);
            for (int p = 0; p < now.land.persons; p++) {
                if (p != from && now.lives(p) && worthOfNext(now, p, owned[p]) > most) {
                    most = worthOfNext(now, p, owned[p]);
                    to = p;
                }
            }
            return to;
        }

        private static int worthOfNext(State now, int p, int others) {
            int age = now.age[p] + others;
            return now.land.goodOf(age + 1) - now.land.goodOf(age);
        }
    }
}
