import java.io.IOException;
import java.lang.reflect.Field;
import java.lang.reflect.Modifier;
import java.nio.charset.StandardCharsets;
import java.nio.file.Files;
import java.nio.file.Path;
import java.util.ArrayList;
import java.util.HashMap;
import java.util.List;
import java.util.Map;
import java.util.Set;
import java.util.TreeSet;
import java.util.regex.Matcher;
import java.util.regex.Pattern;

/** Rules of ../shared/LANGUAGE.md that can be seen in the class's own text. */
public final class LanguageTest {
    private static final Checks C = new Checks("LanguageTest");
    private static final Set<String> IMPORTS = Set.of("java.util.Arrays", "java.util.ArrayList", "java.util.List", "java.util.Iterator");
    private static final String[] RULED_OUT = {"\\bthrow\\b", "\\bthrows\\b", "\\btry\\b", "\\bcatch\\b", "\\bfinally\\b",
        "\\bsynchronized\\b", "\\bassert\\b", "\\bpackage\\b", "\\bprotected\\b", "\\bnative\\b", "\\bvolatile\\b", "\\btransient\\b",
        "->", "::", "Exact\\(", "\\bObject\\b", "\\bThread\\b", "\\bSystem\\.(?!arraycopy)", "\\bjava\\.(?!util\\.Arrays;)", "@",
        "\\bNaN\\b", "\\bhashCode\\b", "\\btoString\\b", "static \\{", "\\[\\]\\[\\]\\[\\]", "new \\w+\\(\\) \\{"};

    private static final List<Method> METHODS = new ArrayList<>();

    private record Method(String name, String parameters, List<String> body) {
    }

    public static void main(String[] args) throws IOException {
        Path path = Path.of("src/main/java/OwnBirthdays.java");
        String whole = Files.readString(path, StandardCharsets.US_ASCII);
        String code = withoutComments(whole);
        importsAreListed(whole);
        nothingRuledOut(code);
        staticFieldsAreFinal(code);
        readMethods(code);
        methodsAreShort();
        callsGoAtMostEightDeep();
        objectsAreMadeByConstructorsAlone(code);
        classesAreFew(code);
        fieldsAreFew();
        noTextIsJoinedByPlus(code);
        C.end();
    }

    private static String withoutComments(String text) {
        return text.replaceAll("(?s)/\\*.*?\\*/", "").replaceAll("//[^\n]*", "");
    }

    private static void importsAreListed(String text) {
        Matcher m = Pattern.compile("(?m)^import ([\\w.]+);").matcher(text);
        while (m.find()) {
            C.due("rule 4: import " + m.group(1), IMPORTS.contains(m.group(1)) ? 1 : 0, 1);
        }
    }

    private static void nothingRuledOut(String code) {
        for (String what : RULED_OUT) {
            Matcher m = Pattern.compile(what).matcher(code);
            C.due("ruled out: " + what, m.find() ? 1 : 0, 0);
        }
    }

    private static void staticFieldsAreFinal(String code) {
        Matcher m = Pattern.compile("(?m)^ *(.*\\bstatic\\b[^(\n]*[;=].*)$").matcher(code);
        int fields = 0;
        while (m.find()) {
            fields++;
            C.due("rule 5: " + m.group(1), m.group(1).contains(" final ") ? 1 : 0, 1);
        }
        C.due("rule 5: there are static fields", fields > 10 ? 1 : 0, 1);
    }

    /** A method begins at a line of 4 or 8 blanks that ends in ") {" and ends at the next "}" of as many blanks. */
    private static void readMethods(String code) {
        List<String> lines = code.lines().toList();
        for (int i = 0; i < lines.size(); i++) {
            Matcher m = Pattern.compile("^( {4}| {8})(?! )[\\w\\[\\] ]*?(\\w+)\\((.*)\\) \\{$").matcher(lines.get(i));
            if (!m.matches() || lines.get(i).matches("^ *(if|for|while|switch) .*")) {
                continue;
            }
            int end = i;
            while (!lines.get(end).equals(m.group(1) + "}")) {
                end++;
            }
            METHODS.add(new Method(m.group(2), m.group(3), lines.subList(i + 1, end)));
        }
        C.due("rule 11: there are methods", METHODS.size() > 80 ? 1 : 0, 1);
    }

    private static void methodsAreShort() {
        for (Method method : METHODS) {
            int many = method.parameters.isEmpty() ? 0 : method.parameters.split(",").length;
            C.due("rule 11: parameters of " + method.name, many <= 7 ? 1 : 0, 1);
            C.due("rule 11: lines of " + method.name, method.body.size() <= 60 ? 1 : 0, 1);
        }
    }

    /** Methods of one name are taken for one: no call is left out. */
    private static void callsGoAtMostEightDeep() {
        Map<String, Set<String>> calls = new HashMap<>();
        for (Method method : METHODS) {
            calls.computeIfAbsent(method.name, name -> new TreeSet<>());
        }
        for (Method method : METHODS) {
            Matcher m = Pattern.compile("(\\w+)\\(").matcher(String.join("\n", method.body));
            while (m.find()) {
                if (calls.containsKey(m.group(1))) {
                    calls.get(method.name).add(m.group(1));
                }
            }
        }
        int deepest = 0;
        for (String name : calls.keySet()) {
            deepest = Math.max(deepest, depthOf(name, calls, 1));
        }
        C.due("rules 8, 11: no recursion, at most eight deep; it is " + deepest, deepest >= 5 && deepest <= 8 ? 1 : 0, 1);
    }

    private static int depthOf(String name, Map<String, Set<String>> calls, int depth) {
        int deepest = depth;
        if (depth < 50) {
            for (String next : calls.get(name)) {
                deepest = Math.max(deepest, depthOf(next, calls, depth + 1));
            }
        }
        return deepest;
    }

    /** All calls of a run live in one room: what a call makes would be counted as often as it is called. */
    private static void objectsAreMadeByConstructorsAlone(String code) {
        Matcher all = Pattern.compile("\\bnew\\b").matcher(code);
        int inCode = 0;
        while (all.find()) {
            inCode++;
        }
        int inConstructors = 0;
        for (Method method : METHODS) {
            Matcher m = Pattern.compile("\\bnew\\b").matcher(String.join("\n", method.body));
            while (m.find()) {
                inConstructors += Character.isUpperCase(method.name.charAt(0)) ? 1 : 0;
            }
        }
        C.due("rule 12: what is made, all by constructors", inConstructors, inCode);
        Pattern copies = Pattern.compile("\\b(clone|copyOf|copyOfRange|substring|toCharArray)\\(");
        C.due("rule 12: no copies are made", copies.matcher(code).find() ? 1 : 0, 0);
    }

    private static void fieldsAreFew() {
        List<Class<?>> classes = new ArrayList<>(List.of(OwnBirthdays.class.getDeclaredClasses()));
        classes.add(OwnBirthdays.class);
        for (Class<?> one : classes) {
            int fields = 0;
            for (Field f : one.getDeclaredFields()) {
                fields += Modifier.isStatic(f.getModifiers()) ? 0 : 1;
            }
            C.due("rule 11: fields of " + one, fields <= 20 ? 1 : 0, 1);
        }
    }

    private static void classesAreFew(String code) {
        Matcher m = Pattern.compile("(?m)^ *(.*\\b(class|record|enum|interface) \\w+).*\\{$").matcher(code);
        int classes = 0;
        while (m.find()) {
            classes++;
            boolean outer = m.group(1).equals("public final class OwnBirthdays");
            C.due("rules 1, 2: " + m.group(1), outer || m.group(1).contains("static") ? 1 : 0, 1);
        }
        C.due("rule 11: classes", classes >= 1 && classes <= 12 ? 1 : 0, 1);
    }

    private static void noTextIsJoinedByPlus(String code) {
        C.due("rule 10", Pattern.compile("\" *\\+|\\+ *\"").matcher(code).find() ? 1 : 0, 0);
    }
}
