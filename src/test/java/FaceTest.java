import java.lang.reflect.Constructor;
import java.lang.reflect.Field;
import java.lang.reflect.Method;
import java.lang.reflect.Modifier;
import java.util.Set;
import java.util.TreeSet;

/** The public face is the document's, and nothing else of the class can be seen. */
public final class FaceTest {
    private static final String[] METHODS = {"feed(int,long)", "land()", "fault()", "told(int)", "person(int,int)",
        "birthday(int,int)", "good(int)", "day(int)", "sell(int,int,int)", "lend(int,int,int,int)", "die(int)", "begin()",
        "foretold(int,int)", "coin(int,int,int,int)", "life(int,int,int)", "votes(int)", "given(int,int,int,int)",
        "rests(int)", "tell(int,int,int)", "tear()", "judge()", "forged()", "drift(int)", "seed(int)", "keep(int)",
        "goBack(int)"};

    public static void main(String[] args) {
        Checks c = new Checks("FaceTest");
        Set<String> want = new TreeSet<>(Set.of(METHODS));
        Set<String> got = new TreeSet<>();
        Set<String> names = new TreeSet<>();
        for (Method m : OwnBirthdays.class.getDeclaredMethods()) {
            if (Modifier.isPublic(m.getModifiers()) && m.getReturnType() == int.class) {
                got.add(m.toString().replaceAll(".*OwnBirthdays\\.", ""));
                names.add(m.getName());
            } else {
                c.due("private " + m, Modifier.isPrivate(m.getModifiers()) ? 1 : 0, 1);
            }
        }
        System.out.println(got.equals(want) ? "the face is whole" : "got " + got + " want " + want);
        c.due("the methods", got.equals(want) ? 1 : 0, 1);
        for (Field f : OwnBirthdays.class.getDeclaredFields()) {
            boolean constant = Set.of("NONE", "UNKNOWN", "OUTSIDE", "NOT", "FULL").contains(f.getName());
            c.due("field " + f, Modifier.isPublic(f.getModifiers()) == constant ? 1 : 0, 1);
            c.due("field " + f, constant || Modifier.isPrivate(f.getModifiers()) ? 1 : 0, 1);
        }
        for (Class<?> inside : OwnBirthdays.class.getDeclaredClasses()) {
            c.due("static " + inside, Modifier.isStatic(inside.getModifiers()) ? 1 : 0, 1);
            for (Method m : inside.getDeclaredMethods()) {
                c.due("another name than " + m, names.contains(m.getName()) ? 1 : 0, 0);
            }
        }
        Constructor<?>[] made = OwnBirthdays.class.getDeclaredConstructors();
        c.due("constructors", made.length, 1);
        c.due("final", Modifier.isFinal(OwnBirthdays.class.getModifiers()) ? 1 : 0, 1);
        c.due("NONE", OwnBirthdays.NONE, -1);
        c.due("UNKNOWN", OwnBirthdays.UNKNOWN, -1000000001);
        c.due("OUTSIDE", OwnBirthdays.OUTSIDE, -1000000002);
        c.due("NOT", OwnBirthdays.NOT, -1000000003);
        c.due("FULL", OwnBirthdays.FULL, -1000000004);
        c.end();
    }
}
