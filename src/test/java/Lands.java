import java.util.Random;

/** A land by draws, with what its text tells at hand: no loans, nobody dead, day 0. */
final class Lands {
    final int year;
    final int[] age;
    final int[] purse;
    final int[] day;
    final int[] owner;
    final int[] price;
    final int[] goodAge;
    final int[] goodBy;

    /** Few like days, ages and prices in one land of two, so that there are like sums. */
    Lands(Random random) {
        boolean alike = random.nextBoolean();
        year = 2 + random.nextInt(alike ? 8 : 59);
        int persons = 1 + random.nextInt(6);
        int birthdays = random.nextInt(9);
        int goods = random.nextInt(11);
        int youngest = random.nextInt(alike ? 91 : 60);
        age = new int[persons];
        purse = new int[persons];
        for (int p = 0; p < persons; p++) {
            age[p] = youngest + random.nextInt(alike ? 8 : 61);
            purse[p] = random.nextInt(random.nextBoolean() ? 1000 : 60);
        }
        day = new int[birthdays];
        owner = new int[birthdays];
        price = new int[birthdays];
        for (int b = 0; b < birthdays; b++) {
            day[b] = random.nextInt(year);
            owner[b] = random.nextInt(persons);
            price[b] = 1 + random.nextInt(alike ? 5 : 99);
        }
        goodAge = new int[goods];
        goodBy = new int[goods];
        int first = Math.max(0, youngest - random.nextInt(4));
        for (int g = 0; g < goods; g++) {
            goodAge[g] = (g == 0 ? first : goodAge[g - 1] + 1) + random.nextInt(3);
            goodBy[g] = random.nextInt(100);
        }
    }

    String text() {
        return textWithout(-1);
    }

    /** As if one of its birthdays (-1: none) had not been told. */
    String textWithout(int untold) {
        StringBuilder s = new StringBuilder("year ").append(year).append(';');
        for (int p = 0; p < age.length; p++) {
            s.append("person ").append(age[p]).append(' ').append(purse[p]).append(';');
        }
        for (int b = 0; b < day.length; b++) {
            if (b != untold) {
                s.append("birthday ").append(day[b]).append(' ').append(owner[b]).append(' ').append(price[b]).append(';');
            }
        }
        for (int g = 0; g < goodAge.length; g++) {
            s.append("good ").append(goodAge[g]).append(' ').append(goodBy[g]).append(';');
        }
        return s.toString();
    }

    OwnBirthdays made() {
        return Checks.landOf(text());
    }
}
