import java.io.IOException;
import java.lang.reflect.Constructor;
import java.lang.reflect.Field;
import java.lang.reflect.Method;
import java.lang.reflect.Modifier;
import java.nio.file.Files;
import java.nio.file.Path;
import java.util.Set;
import java.util.TreeSet;

/** "The public face" is the document's, and nothing else of the class can be seen. */
public final class FaceTest {
    private static final Checks C = new Checks("FaceTest");
    private static final Class<?> FACE = OwnBirthdays.class;
    private static final Set<String> CONSTANTS = Set.of("NONE", "UNKNOWN", "OUTSIDE", "NOT", "FULL");
    private static final String[] METHODS = {"feed(int,long)", "land()", "fault()", "told(int)", "person(int,int)",
        "birthday(int,int)", "good(int)", "day(int)", "sell(int,int,int)", "lend(int,int,int,int)", "die(int)", "begin()",
        "foretold(int,int)", "coin(int,int,int,int)", "life(int,int,int)", "votes(int)", "given(int,int,int,int)",
        "rests(int)", "tell(int,int,int)", "tear()", "judge()", "forged()", "drift(int)", "seed(int)", "keep(int)",
        "goBack(int)"};
    /** What the interface says ahead of which calls, and the calls as they come. */
    private static final String[] INTERFACE = {"// ---- the land\n", "feed(", "land(", "fault(", "told(", "person(", "birthday(", "good(",
        "// ---- days, deals\n", "day(", "sell(", "lend(", "die(", "begin(",
        "// ---- tried\n", "foretold(", "coin(", "life(", "votes(", "given(", "rests(",
        "// ---- told ages\n", "tell(", "tear(", "judge(", "forged(",
        "// ---- draws, images\n", "drift(", "seed(", "keep(", "goBack("};

    public static void main(String[] args) throws IOException {
        theClass();
        theConstructor();
        theConstants();
        theMethods();
        noMemberBesideThem();
        theClassesInside();
        whatTheInterfaceSaysAheadOfTheCalls();
        C.end();
    }

    private static void holds(String what, boolean is) {
        C.due(what, is ? 1 : 0, 1);
    }

    private static void theClass() {
        holds("public", Modifier.isPublic(FACE.getModifiers()));
        holds("final", Modifier.isFinal(FACE.getModifiers()));
        holds("without a package", FACE.getPackageName().isEmpty());
        holds("above it stands Object", FACE.getSuperclass() == Object.class);
        C.due("interfaces", FACE.getInterfaces().length, 0);
    }

    private static void theConstructor() {
        Constructor<?>[] made = FACE.getDeclaredConstructors();
        C.due("constructors", made.length, 1);
        holds("public", Modifier.isPublic(made[0].getModifiers()));
        C.due("its parameters", made[0].getParameterCount(), 0);
        C.due("what it throws", made[0].getExceptionTypes().length, 0);
    }

    private static void theConstants() {
        C.due("NONE", OwnBirthdays.NONE, -1);
        C.due("UNKNOWN", OwnBirthdays.UNKNOWN, -1000000001);
        C.due("OUTSIDE", OwnBirthdays.OUTSIDE, -1000000002);
        C.due("NOT", OwnBirthdays.NOT, -1000000003);
        C.due("FULL", OwnBirthdays.FULL, -1000000004);
        int constants = 0;
        for (Field f : FACE.getDeclaredFields()) {
            if (CONSTANTS.contains(f.getName())) {
                constants++;
                C.due("public static final: " + f, f.getModifiers(), Modifier.PUBLIC | Modifier.STATIC | Modifier.FINAL);
                holds("an int: " + f, f.getType() == int.class);
            }
        }
        C.due("constants", constants, 5);
    }

    private static void theMethods() {
        Set<String> got = new TreeSet<>();
        for (Method m : FACE.getDeclaredMethods()) {
            if (Modifier.isPublic(m.getModifiers())) {
                got.add(m.toString().replaceAll(".*OwnBirthdays\\.", ""));
                holds("answers an int: " + m, m.getReturnType() == int.class);
                C.due("public and nothing else: " + m, m.getModifiers(), Modifier.PUBLIC);
                C.due("throws nothing: " + m, m.getExceptionTypes().length, 0);
            }
        }
        C.dueSame("the methods", got.toString(), new TreeSet<>(Set.of(METHODS)).toString());
    }

    private static void noMemberBesideThem() {
        Set<String> names = new TreeSet<>();
        for (String method : METHODS) {
            names.add(method.substring(0, method.indexOf('(')));
        }
        for (Method m : FACE.getDeclaredMethods()) {
            if (!Modifier.isPublic(m.getModifiers())) {
                holds("private: " + m, Modifier.isPrivate(m.getModifiers()));
                holds("bears another name: " + m, !names.contains(m.getName()));
            }
        }
        for (Field f : FACE.getDeclaredFields()) {
            holds("private: " + f, CONSTANTS.contains(f.getName()) || Modifier.isPrivate(f.getModifiers()));
        }
        for (Class<?> inside : FACE.getDeclaredClasses()) {
            for (Method m : inside.getDeclaredMethods()) {
                holds("bears another name: " + m, !names.contains(m.getName()));
            }
        }
    }

    private static void theClassesInside() {
        for (Class<?> inside : FACE.getDeclaredClasses()) {
            int seen = inside.getModifiers() & (Modifier.PUBLIC | Modifier.PROTECTED);
            C.due("private or package-visible: " + inside, seen, 0);
            holds("static: " + inside, Modifier.isStatic(inside.getModifiers()));
            C.due("none inside it: " + inside, inside.getDeclaredClasses().length, 0);
        }
    }

    /** "Ahead of the calls .. the interface says: ---- the land." and so on. */
    private static void whatTheInterfaceSaysAheadOfTheCalls() throws IOException {
        String text = Files.readString(Path.of("src/main/java/OwnBirthdays.java"));
        int at = 0;
        for (String next : INTERFACE) {
            String sought = next.startsWith("//") ? next : "public int " + next;
            int place = text.indexOf(sought, at);
            holds("in its place: " + sought.trim(), place >= 0);
            C.due("once: " + sought.trim(), text.indexOf(sought, text.indexOf(sought) + 1), -1);
            at = Math.max(at, place);
        }
    }
}
