import java.nio.file.Files;
import java.nio.file.Path;

/**
 * RESTS, "40 times at most". No land is known that changes hands 40 times, so the bound itself is looked at in the
 * class's text, and that it binds is tried on the class with lesser bounds in its place.
 */
public final class RestsBoundTest {
    private static final Checks C = new Checks("RestsBoundTest");
    private static final String BOUND = "MOST_MOVES = 40;";
    /** It changes hands 25 times. */
    private static final String LAND = "person 21 0;person 18 0;person 6 0;person 1 0;person 9 0;person 24 0;"
        + "birthday 1 0 1;birthday 1 5 1;birthday 1 5 1;birthday 1 4 1;birthday 1 4 1;birthday 1 5 1;birthday 1 0 1;birthday 1 5 1;"
        + "good 23 10;good 21 35;good 9 80;good 27 1;good 2 11;good 5 91;good 8 23;good 20 13;good 4 60;good 24 25;";

    public static void main(String[] args) throws Exception {
        String source = Files.readString(Path.of("src/main/java/OwnBirthdays.java"));
        theBoundIs40(source);
        int[] bounds = {0, 1, 2, 3, 4, 24, 25, 26};
        for (int bound : bounds) {
            noMoreTimesThanTheBound(source, bound);
        }
        C.end();
    }

    private static void theBoundIs40(String source) {
        C.due("the bound is told in the class", source.contains(BOUND) ? 1 : 0, 1);
        C.due("once", source.indexOf(BOUND), source.lastIndexOf(BOUND));
    }

    private static void noMoreTimesThanTheBound(String source, int bound) throws Exception {
        String lesser = source.replace(BOUND, "MOST_MOVES = " + bound + ";");
        try (Compiled compiled = new Compiled("OwnBirthdays", lesser, false)) {
            C.due("it compiles with " + bound, compiled.fine ? 1 : 0, 1);
            Object x = compiled.load("OwnBirthdays").getConstructor().newInstance();
            Checks.feed((n, bytes) -> call(x, "feed", n, bytes), LAND);
            C.due("land", (int) x.getClass().getMethod("land").invoke(x), 6);
            C.due("times with " + bound, rests(x, Checks.NONE), Math.min(25, bound));
            int[] whose = ownersBehind(Math.min(bound, 25));
            for (int b = 0; b < whose.length; b++) {
                C.due("whose is " + b + " with " + bound, rests(x, b), whose[b]);
            }
        }
    }

    private static int call(Object x, String name, int n, long bytes) {
        try {
            return (int) x.getClass().getMethod(name, int.class, long.class).invoke(x, n, bytes);
        } catch (ReflectiveOperationException e) {
            throw new IllegalStateException(e);
        }
    }

    private static int rests(Object x, int b) throws ReflectiveOperationException {
        return (int) x.getClass().getMethod("rests", int.class).invoke(x, b);
    }

    /** So many changes done for real by sales for nothing, each on a new object: 512 calls are promised of one. */
    private static int[] ownersBehind(int times) {
        int[] owner = {0, 5, 5, 4, 4, 5, 0, 5};
        OwnBirthdays x = withOwners(owner);
        for (int i = 0; i < times; i++) {
            int[] change = AllWaysTest.firstChange(x);
            owner[change[0]] = change[1];
            x = withOwners(owner);
        }
        return owner;
    }

    private static OwnBirthdays withOwners(int[] owner) {
        OwnBirthdays x = Checks.landOf(LAND);
        for (int b = 0; b < owner.length; b++) {
            x.sell(b, owner[b], 0);
        }
        return x;
    }
}
