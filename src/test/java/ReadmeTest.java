import java.lang.reflect.Method;
import java.lang.reflect.Modifier;
import java.nio.file.Files;
import java.nio.file.Path;
import java.util.ArrayList;
import java.util.List;
import java.util.Set;
import java.util.TreeSet;
import java.util.regex.Matcher;
import java.util.regex.Pattern;

/** What README.md says is so: its examples are compiled and run, its tables and its files are looked for. */
public final class ReadmeTest {
    private static final Checks C = new Checks("ReadmeTest");
    private static final Pattern ANSWER = Pattern.compile("^(x\\.(\\w+)\\(.*\\)); *// (-?\\d+|[A-Z]+): .*$");
    /** Calls of the examples by their names: each call of the face is shown at least once. */
    private static final Set<String> SHOWN = new TreeSet<>();

    public static void main(String[] args) throws Exception {
        String readme = Files.readString(Path.of("README.md"));
        theExamplesAnswerAsTheySay(readme);
        eachCallIsInTheTableAndInAnExample(readme);
        theRefusalsAreNamedWithTheirNumbers(readme);
        theClassesInsideAreAllNamed(readme);
        theFilesAreThere(readme);
        C.end();
    }

    private static List<String> examples(String readme) {
        List<String> blocks = new ArrayList<>();
        Matcher m = Pattern.compile("(?s)```java\n(.*?)```").matcher(readme);
        while (m.find()) {
            blocks.add(m.group(1));
        }
        return blocks;
    }

    /** Blocks are one program: what begins with "static" is a method of it, all else its lines in their order. */
    private static String program(String readme) {
        StringBuilder methods = new StringBuilder();
        StringBuilder lines = new StringBuilder();
        for (String block : examples(readme)) {
            if (block.startsWith("static ")) {
                methods.append(block);
                continue;
            }
            for (String line : block.split("\n")) {
                lines.append(checked(line)).append('\n');
            }
        }
        return "public class Shown extends ShownBase {\n" + methods + "public static void run() {\n" + lines + "}\n}\n"
            + "class ShownBase {\nstatic final int NONE = OwnBirthdays.NONE, UNKNOWN = OwnBirthdays.UNKNOWN,"
            + " OUTSIDE = OwnBirthdays.OUTSIDE, NOT = OwnBirthdays.NOT, FULL = OwnBirthdays.FULL;\n}\n";
    }

    /** "x.call(..); // answer: words" becomes a check; a line that only does something stays. */
    private static String checked(String line) {
        Matcher m = ANSWER.matcher(line);
        if (!m.matches()) {
            C.due("a call without its answer: " + line, line.startsWith("x.") ? 1 : 0, 0);
            return line;
        }
        SHOWN.add(m.group(2));
        return "ReadmeTest.answered(\"" + m.group(1) + "\", " + m.group(1) + ", " + m.group(3) + ");";
    }

    public static void answered(String call, int got, int want) {
        C.due(call, got, want);
    }

    private static void theExamplesAnswerAsTheySay(String readme) throws Exception {
        try (Compiled compiled = new Compiled("Shown", program(readme), true)) {
            C.due("the examples compile", compiled.fine ? 1 : 0, 1);
            compiled.load("Shown").getMethod("run").invoke(null);
        }
    }

    private static void eachCallIsInTheTableAndInAnExample(String readme) {
        Set<String> inTable = new TreeSet<>();
        Matcher m = Pattern.compile("(?m)^\\| `(\\w+)\\(([\\w, ]*)\\)` \\|").matcher(readme);
        while (m.find()) {
            int many = m.group(2).isEmpty() ? 0 : m.group(2).split(",").length;
            inTable.add(m.group(1) + " " + many);
        }
        Set<String> ofTheFace = new TreeSet<>();
        for (Method method : OwnBirthdays.class.getDeclaredMethods()) {
            if (Modifier.isPublic(method.getModifiers())) {
                ofTheFace.add(method.getName() + " " + method.getParameterCount());
                C.due("an example of " + method.getName(), SHOWN.contains(method.getName()) ? 1 : 0, 1);
            }
        }
        C.dueSame("the calls of the table", inTable.toString(), ofTheFace.toString());
    }

    private static void theRefusalsAreNamedWithTheirNumbers(String readme) throws ReflectiveOperationException {
        String[] names = {"UNKNOWN", "OUTSIDE", "NOT", "FULL"};
        int last = -1;
        for (String name : names) {
            int number = OwnBirthdays.class.getField(name).getInt(null);
            int place = readme.indexOf("| `" + name + "` | " + number + " |");
            C.due("in its order: " + name, place > last ? 1 : 0, 1);
            C.due("an example of " + name, readme.contains("// " + name + ": ") ? 1 : 0, 1);
            last = place;
        }
        C.due("NONE", readme.contains("`NONE` is " + OwnBirthdays.NONE) ? 1 : 0, 1);
    }

    private static void theClassesInsideAreAllNamed(String readme) {
        String built = readme.substring(readme.indexOf("## How it is built"));
        Set<String> named = new TreeSet<>();
        Matcher m = Pattern.compile("`([A-Z]\\w+)`").matcher(built.substring(0, built.indexOf("## How its tests")));
        while (m.find()) {
            named.add(m.group(1));
        }
        Set<String> inside = new TreeSet<>();
        for (Class<?> one : OwnBirthdays.class.getDeclaredClasses()) {
            inside.add(one.getSimpleName());
        }
        C.dueSame("the classes inside", named.toString(), inside.toString());
    }

    private static void theFilesAreThere(String readme) {
        String[] files = {".ci/run", "src/main/java/OwnBirthdays.java", "src/test/SENTENCES.md", "NOTES.md"};
        for (String file : files) {
            C.due("named: " + file, readme.contains(file) ? 1 : 0, 1);
            C.due("there: " + file, Files.isRegularFile(Path.of(file)) ? 1 : 0, 1);
        }
        C.due(".ci/run can be run", Files.isExecutable(Path.of(".ci/run")) ? 1 : 0, 1);
        Matcher m = Pattern.compile("(?m)^    java -cp out (\\w+)").matcher(readme);
        while (m.find()) {
            C.due("a test: " + m.group(1), Files.isRegularFile(Path.of("src/test/java/" + m.group(1) + ".java")) ? 1 : 0, 1);
        }
    }
}
