import java.io.IOException;
import java.lang.reflect.Method;
import java.nio.file.Files;
import java.nio.file.Path;
import java.util.ArrayList;
import java.util.List;
import java.util.regex.Matcher;
import java.util.regex.Pattern;

/** src/test/SENTENCES.md leaves out no sentence of the document, and the tests that it names are there. */
public final class SentencesTest {
    private static final Checks C = new Checks("SentencesTest");
    private static final Path DOCUMENT = Path.of("../shared/DOC.md");
    private static final Path TABLE = Path.of("src/test/SENTENCES.md");

    private record Row(String says, String heldBy) {
    }

    public static void main(String[] args) throws IOException {
        List<Row> rows = rows(Files.readString(TABLE));
        nothingIsLeftOut(rows);
        eachSentenceIsHeld(rows);
        C.end();
    }

    private static List<Row> rows(String table) {
        List<Row> rows = new ArrayList<>();
        Matcher m = Pattern.compile("(?m)^\\| (.*?) \\| (.*?) \\|$").matcher(table);
        while (m.find()) {
            if (!m.group(1).equals("---") && !m.group(1).equals("the document says")) {
                rows.add(new Row(m.group(1), m.group(2)));
            }
        }
        return rows;
    }

    /** Without headings and signs of form; blanks side by side are one. */
    private static String plain(String document) {
        int end = document.indexOf("## Not promised");
        return document.substring(0, end < 0 ? document.length() : end)
            .replaceAll("(?m)^#.*$", " ")
            .replaceAll("(?m)^```.*$", " ")
            .replaceAll("======== \\d ", " ")
            .replaceAll("\\s+", " ")
            .trim();
    }

    private static void nothingIsLeftOut(List<Row> rows) throws IOException {
        C.due("the table has rows", rows.size() > 150 ? 1 : 0, 1);
        if (!Files.isReadable(DOCUMENT)) {
            System.out.println("SentencesTest: " + DOCUMENT + " is not there: the table was not compared with it");
            return;
        }
        StringBuilder listed = new StringBuilder();
        for (Row row : rows) {
            listed.append(row.says).append(' ');
        }
        String want = plain(Files.readString(DOCUMENT));
        String got = listed.toString().trim();
        int same = 0;
        while (same < got.length() && same < want.length() && got.charAt(same) == want.charAt(same)) {
            same++;
        }
        String differs = got.equals(want) ? "" : ": they differ at '" + want.substring(same, Math.min(want.length(), same + 60)) + "'";
        C.due("the table is the document" + differs, got.equals(want) ? 1 : 0, 1);
    }

    private static void eachSentenceIsHeld(List<Row> rows) throws IOException {
        for (Row row : rows) {
            Matcher m = Pattern.compile("(\\w+Test)\\.(\\w+)").matcher(row.heldBy);
            int tests = 0;
            while (m.find()) {
                tests++;
                C.due("there is " + m.group(), hasMethod(m.group(1), m.group(2)) ? 1 : 0, 1);
                C.due("it is run: " + m.group(), isCalled(m.group(1), m.group(2)) ? 1 : 0, 1);
            }
            C.due("held: " + row.says, tests > 0 || row.heldBy.startsWith("nothing to test: ") ? 1 : 0, 1);
        }
    }

    private static boolean isCalled(String test, String name) throws IOException {
        String source = Files.readString(Path.of("src/test/java/" + test + ".java"));
        return Pattern.compile("(?<!void |int )\\b" + name + "\\(|::" + name + "\\b").matcher(source).find();
    }

    private static boolean hasMethod(String test, String name) {
        try {
            for (Method method : Class.forName(test).getDeclaredMethods()) {
                if (method.getName().equals(name)) {
                    return true;
                }
            }
        } catch (ClassNotFoundException e) {
            return false;
        }
        return false;
    }
}
