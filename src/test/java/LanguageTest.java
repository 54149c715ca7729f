import java.io.IOException;
import java.nio.charset.StandardCharsets;
import java.nio.file.Files;
import java.nio.file.Path;
import java.util.List;
import java.util.Set;
import java.util.regex.Matcher;
import java.util.regex.Pattern;

/** Rules of ../shared/LANGUAGE.md that can be seen in the class's own text. */
public final class LanguageTest {
    private static final Checks C = new Checks("LanguageTest");
    private static final Set<String> IMPORTS = Set.of("java.util.Arrays", "java.util.ArrayList", "java.util.List", "java.util.Iterator");
    private static final String[] RULED_OUT = {"\\bthrow\\b", "\\bthrows\\b", "\\btry\\b", "\\bcatch\\b", "\\bfinally\\b",
        "\\bsynchronized\\b", "\\bassert\\b", "\\bpackage\\b", "\\bprotected\\b", "\\bnative\\b", "\\bvolatile\\b", "\\btransient\\b",
        "->", "::", "Exact\\(", "\\bObject\\b", "\\bThread\\b", "\\bSystem\\.(?!arraycopy)", "\\bjava\\.(?!util\\.Arrays;)", "@",
        "\\bNaN\\b", "\\bhashCode\\b", "\\btoString\\b", "static \\{", "\\[\\]\\[\\]\\[\\]", "new \\w+\\(\\) \\{"};

    public static void main(String[] args) throws IOException {
        Path path = Path.of("src/main/java/OwnBirthdays.java");
        String whole = Files.readString(path, StandardCharsets.US_ASCII);
        String code = withoutComments(whole);
        importsAreListed(whole);
        nothingRuledOut(code);
        staticFieldsAreFinal(code);
        methodsAreShort(code);
        classesAreFew(code);
        noTextIsJoinedByPlus(code);
        C.end();
    }

    private static String withoutComments(String text) {
        return text.replaceAll("(?s)/\\*.*?\\*/", "").replaceAll("//[^\n]*", "");
    }

    private static void importsAreListed(String text) {
        Matcher m = Pattern.compile("(?m)^import ([\\w.]+);").matcher(text);
        while (m.find()) {
            C.due("rule 4: import " + m.group(1), IMPORTS.contains(m.group(1)) ? 1 : 0, 1);
        }
    }

    private static void nothingRuledOut(String code) {
        for (String what : RULED_OUT) {
            Matcher m = Pattern.compile(what).matcher(code);
            C.due("ruled out: " + what, m.find() ? 1 : 0, 0);
        }
    }

    private static void staticFieldsAreFinal(String code) {
        Matcher m = Pattern.compile("(?m)^ *(.*\\bstatic\\b[^(\n]*[;=].*)$").matcher(code);
        int fields = 0;
        while (m.find()) {
            fields++;
            C.due("rule 5: " + m.group(1), m.group(1).contains(" final ") ? 1 : 0, 1);
        }
        C.due("rule 5: there are static fields", fields > 10 ? 1 : 0, 1);
    }

    /** A method begins at a line of 4 or 8 blanks that ends in ") {" and ends at the next "}" of as many blanks. */
    private static void methodsAreShort(String code) {
        List<String> lines = code.lines().toList();
        int methods = 0;
        for (int i = 0; i < lines.size(); i++) {
            Matcher m = Pattern.compile("^( {4}| {8})(?! )[\\w\\[\\] ]*\\w\\((.*)\\) \\{$").matcher(lines.get(i));
            if (!m.matches() || lines.get(i).matches("^ *(if|for|while|switch) .*")) {
                continue;
            }
            methods++;
            int end = i;
            while (!lines.get(end).equals(m.group(1) + "}")) {
                end++;
            }
            String parameters = m.group(2);
            int many = parameters.isEmpty() ? 0 : parameters.split(",").length;
            C.due("rule 11: parameters of " + lines.get(i).trim(), many <= 7 ? 1 : 0, 1);
            C.due("rule 11: lines of " + lines.get(i).trim(), end - i <= 60 ? 1 : 0, 1);
        }
        C.due("rule 11: there are methods", methods > 80 ? 1 : 0, 1);
    }

    private static void classesAreFew(String code) {
        Matcher m = Pattern.compile("(?m)^ *(.*\\b(class|record|enum|interface) \\w+).*\\{$").matcher(code);
        int classes = 0;
        while (m.find()) {
            classes++;
            boolean outer = m.group(1).equals("public final class OwnBirthdays");
            C.due("rules 1, 2: " + m.group(1), outer || m.group(1).contains("static") ? 1 : 0, 1);
        }
        C.due("rule 11: classes", classes >= 1 && classes <= 12 ? 1 : 0, 1);
    }

    private static void noTextIsJoinedByPlus(String code) {
        C.due("rule 10", Pattern.compile("\" *\\+|\\+ *\"").matcher(code).find() ? 1 : 0, 0);
    }
}
