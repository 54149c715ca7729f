import java.lang.reflect.Method;
import java.lang.reflect.Modifier;
import java.nio.file.Files;
import java.nio.file.Path;
import java.util.ArrayList;
import java.util.List;
import java.util.Map;
import java.util.Set;
import java.util.TreeMap;
import java.util.TreeSet;
import java.util.regex.Matcher;
import java.util.regex.Pattern;

/** What README.md says is so: its examples are compiled and run, its tables and its files are looked for. */
public final class ReadmeTest {
    private static final Checks C = new Checks("ReadmeTest");
    private static final Pattern ANSWER = Pattern.compile("^(x\\.(\\w+)\\(.*\\)); *// (-?\\d+|[A-Z]+): .*$");
    /** Calls of the examples by their names: each call of the face is shown at least once. */
    private static final Set<String> SHOWN = new TreeSet<>();

    public static void main(String[] args) throws Exception {
        String readme = Files.readString(Path.of("README.md"));
        theExamplesAnswerAsTheySay(readme);
        eachCallIsInTheTableAndInAnExample(readme);
        theBoundsOfTheCallsAreSo(readme);
        theBoundsOfTheClausesAreSo(readme);
        theRefusalsAreNamedWithTheirNumbers(readme);
        theClassesInsideAreAllNamed(readme);
        theFilesAreThere(readme);
        C.end();
    }

    private static List<String> examples(String readme) {
        List<String> blocks = new ArrayList<>();
        Matcher m = Pattern.compile("(?s)```java\n(.*?)```").matcher(readme);
        while (m.find()) {
            blocks.add(m.group(1));
        }
        return blocks;
    }

    /** Blocks are one program: what begins with "static" is a method of it, all else its lines in their order. */
    private static String program(String readme) {
        StringBuilder methods = new StringBuilder();
        StringBuilder lines = new StringBuilder();
        for (String block : examples(readme)) {
            if (block.startsWith("static ")) {
                methods.append(block);
                continue;
            }
            for (String line : block.split("\n")) {
                lines.append(checked(line)).append('\n');
            }
        }
        return "public class Shown extends ShownBase {\n" + methods + "public static void run() {\n" + lines + "}\n}\n"
            + "class ShownBase {\nstatic final int NONE = OwnBirthdays.NONE, UNKNOWN = OwnBirthdays.UNKNOWN,"
            + " OUTSIDE = OwnBirthdays.OUTSIDE, NOT = OwnBirthdays.NOT, FULL = OwnBirthdays.FULL;\n}\n";
    }

    /** "x.call(..); // answer: words" becomes a check; a line that only does something stays. */
    private static String checked(String line) {
        Matcher m = ANSWER.matcher(line);
        if (!m.matches()) {
            C.due("a call without its answer: " + line, line.startsWith("x.") ? 1 : 0, 0);
            return line;
        }
        SHOWN.add(m.group(2));
        return "ReadmeTest.answered(\"" + m.group(1) + "\", " + m.group(1) + ", " + m.group(3) + ");";
    }

    public static void answered(String call, int got, int want) {
        C.due(call, got, want);
    }

    private static void theExamplesAnswerAsTheySay(String readme) throws Exception {
        try (Compiled compiled = new Compiled("Shown", program(readme), true)) {
            C.due("the examples compile", compiled.fine ? 1 : 0, 1);
            compiled.load("Shown").getMethod("run").invoke(null);
        }
    }

    private static void eachCallIsInTheTableAndInAnExample(String readme) {
        Set<String> inTable = new TreeSet<>();
        Matcher m = Pattern.compile("(?m)^\\| `(\\w+)\\(([\\w, ]*)\\)` \\|").matcher(readme);
        while (m.find()) {
            int many = m.group(2).isEmpty() ? 0 : m.group(2).split(",").length;
            inTable.add(m.group(1) + " " + many);
        }
        Set<String> ofTheFace = new TreeSet<>();
        for (Method method : OwnBirthdays.class.getDeclaredMethods()) {
            if (Modifier.isPublic(method.getModifiers())) {
                ofTheFace.add(method.getName() + " " + method.getParameterCount());
                C.due("an example of " + method.getName(), SHOWN.contains(method.getName()) ? 1 : 0, 1);
            }
        }
        C.dueSame("the calls of the table", inTable.toString(), ofTheFace.toString());
    }

    /** A number of a call and its bounds; another number of the same call has a row of its own. */
    private record Bound(String call, int least, int most, Checks.NumberCall tried) {
    }

    private static final List<Bound> BOUNDS = List.of(
        new Bound("good", 0, 999, (x, n) -> x.good(n)),
        new Bound("day", 1, 9999, (x, n) -> x.day(n)),
        new Bound("sell", 0, 999, (x, n) -> x.sell(0, 1, n)),
        new Bound("lend", 1, 9999, (x, n) -> x.lend(0, 1, n, 0)),
        new Bound("lend", 0, 999, (x, n) -> x.lend(0, 1, 1, n)),
        new Bound("foretold", 0, 99999, (x, n) -> x.foretold(0, n)),
        new Bound("coin", 0, 999, (x, n) -> x.coin(0, n, 1, 0)),
        new Bound("coin", 1, 9999, (x, n) -> x.coin(0, 0, n, 0)),
        new Bound("life", 1, 60, (x, n) -> x.life(0, n, 0)),
        new Bound("votes", 0, 999, (x, n) -> x.votes(n)),
        new Bound("given", 1, 9999, (x, n) -> x.given(0, 0, n, -1)),
        new Bound("given", 0, 6, (x, n) -> x.given(n, 0, 1, -1)),
        new Bound("given", 0, 999, (x, n) -> x.given(0, n, 1, -1)),
        new Bound("tell", 0, 999, (x, n) -> x.tell(0, 0, n)),
        new Bound("tell", 0, 9999, (x, n) -> x.tell(0, n, 0)),
        new Bound("drift", 1, 999, (x, n) -> x.drift(n)));

    /** Each "(.. to ..)" in a call's row is among the bounds that are tried, and the other way round. */
    private static void theBoundsOfTheCallsAreSo(String readme) {
        Map<String, List<String>> said = new TreeMap<>();
        Matcher row = Pattern.compile("(?m)^\\| `(\\w+)\\([\\w, ]*\\)` \\| (.*) \\|$").matcher(readme);
        while (row.find()) {
            Matcher m = Pattern.compile("\\((\\d+ to \\d+)\\)").matcher(row.group(2));
            while (m.find()) {
                said.computeIfAbsent(row.group(1), name -> new ArrayList<>()).add(m.group(1));
            }
        }
        Map<String, List<String>> tried = new TreeMap<>();
        for (Bound bound : BOUNDS) {
            tried.computeIfAbsent(bound.call, name -> new ArrayList<>()).add(bound.least + " to " + bound.most);
            for (int n : new int[] {bound.least, bound.most}) {
                int answer = bound.tried.on(Checks.landOf("person 1 999;person 1 999;birthday 1 0 1;"), n);
                C.due(bound.call + " of " + n + " is not OUTSIDE", answer == Checks.OUTSIDE ? 1 : 0, 0);
            }
            for (int n : new int[] {bound.least - 1, bound.most + 1}) {
                int answer = bound.tried.on(Checks.landOf("person 1 999;person 1 999;birthday 1 0 1;"), n);
                C.due(bound.call + " of " + n, answer, Checks.OUTSIDE);
            }
        }
        said.values().forEach(list -> list.sort(null));
        tried.values().forEach(list -> list.sort(null));
        C.dueSame("the bounds of the calls", said.toString(), tried.toString());
    }

    /** By clause: its text with each bounded number in turn, as the row tells them; how many there may be. */
    private static void theBoundsOfTheClausesAreSo(String readme) {
        clause(readme, "year N;", "once at most", "year %d;");
        clause(readme, "person A C;", "6 at most", "person %d 1;", "person 1 %d;");
        clause(readme, "birthday D P C;", "8 at most", "person 1 1;birthday 1 0 %d;");
        clause(readme, "good A V;", "10 at most", "good %d 1;", "good 1 %d;");
        atMost("person 1 1;", "", 6);
        atMost("birthday 1 0 1;", "person 1 1;", 8);
        StringBuilder goods = new StringBuilder();
        for (int a = 0; a < 10; a++) {
            goods.append("good ").append(a).append(" 1;");
        }
        C.due("ten goods", Checks.tell(new OwnBirthdays(), goods.toString()), 0);
        C.due("eleven goods", Checks.tell(new OwnBirthdays(), goods + "good 10 1;"), -13);
        C.due("year twice", Checks.tell(new OwnBirthdays(), "year 5;year 5;"), -13);
    }

    private static void clause(String readme, String form, String howMany, String... texts) {
        int start = readme.indexOf("| `" + form + "` |");
        String row = start < 0 ? "" : readme.substring(start, readme.indexOf('\n', start));
        C.due("a row of " + form, row.contains("| " + howMany) ? 1 : 0, 1);
        Matcher m = Pattern.compile("(\\d+) to (\\d+)").matcher(row);
        for (String text : texts) {
            boolean more = m.find();
            C.due("a bound of " + text, more ? 1 : 0, 1);
            if (more) {
                int least = Integer.parseInt(m.group(1));
                int most = Integer.parseInt(m.group(2));
                C.due(text + " " + least, told(text, least) >= 0 ? 1 : 0, 1);
                C.due(text + " " + most, told(text, most) >= 0 ? 1 : 0, 1);
                C.due(text + " " + (most + 1), told(text, most + 1), -12);
                C.due(text + " " + (least - 1), told(text, least - 1), least == 0 ? -11 : -12);
            }
        }
        C.due("no other bound of " + form, m.find() ? 1 : 0, 0);
    }

    private static int told(String text, int number) {
        return Checks.tell(new OwnBirthdays(), text.replace("%d", Integer.toString(number)));
    }

    private static void atMost(String text, String ahead, int most) {
        C.due(most + " of " + text, Checks.tell(new OwnBirthdays(), ahead + text.repeat(most)) >= 0 ? 1 : 0, 1);
        C.due(most + " of " + text + " and one", Checks.tell(new OwnBirthdays(), ahead + text.repeat(most + 1)), -13);
    }

    private static void theRefusalsAreNamedWithTheirNumbers(String readme) throws ReflectiveOperationException {
        String[] names = {"UNKNOWN", "OUTSIDE", "NOT", "FULL"};
        int last = -1;
        for (String name : names) {
            int number = OwnBirthdays.class.getField(name).getInt(null);
            int place = readme.indexOf("| `" + name + "` | " + number + " |");
            C.due("in its order: " + name, place > last ? 1 : 0, 1);
            C.due("an example of " + name, readme.contains("// " + name + ": ") ? 1 : 0, 1);
            last = place;
        }
        C.due("NONE", readme.contains("`NONE` is " + OwnBirthdays.NONE) ? 1 : 0, 1);
    }

    private static void theClassesInsideAreAllNamed(String readme) {
        String built = readme.substring(readme.indexOf("## How it is built"));
        Set<String> named = new TreeSet<>();
        Matcher m = Pattern.compile("`([A-Z]\\w+)`").matcher(built.substring(0, built.indexOf("## How its tests")));
        while (m.find()) {
            named.add(m.group(1));
        }
        Set<String> inside = new TreeSet<>();
        for (Class<?> one : OwnBirthdays.class.getDeclaredClasses()) {
            inside.add(one.getSimpleName());
        }
        C.dueSame("the classes inside", named.toString(), inside.toString());
    }

    private static void theFilesAreThere(String readme) {
        String[] files = {".ci/run", "src/main/java/OwnBirthdays.java", "src/test/SENTENCES.md", "NOTES.md"};
        for (String file : files) {
            C.due("named: " + file, readme.contains(file) ? 1 : 0, 1);
            C.due("there: " + file, Files.isRegularFile(Path.of(file)) ? 1 : 0, 1);
        }
        C.due(".ci/run can be run", Files.isExecutable(Path.of(".ci/run")) ? 1 : 0, 1);
        Matcher m = Pattern.compile("(?m)^    java -cp out (\\w+)").matcher(readme);
        while (m.find()) {
            C.due("a test: " + m.group(1), Files.isRegularFile(Path.of("src/test/java/" + m.group(1) + ".java")) ? 1 : 0, 1);
        }
    }
}
