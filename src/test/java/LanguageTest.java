import java.lang.reflect.Field;
import java.lang.reflect.Method;
import java.lang.reflect.Modifier;
import java.nio.file.Files;
import java.nio.file.Path;
import java.util.ArrayList;
import java.util.List;
import java.util.Map;
import java.util.Set;
import java.util.TreeMap;
import java.util.TreeSet;
import java.util.regex.Matcher;
import java.util.regex.Pattern;

/** The rules of LANGUAGE.md that can be seen from the text of the class. */
public final class LanguageTest {
    private static final Check check = new Check("LanguageTest");
    private static final Set<String> LIBRARY = Set.of("Arrays.fill", "Integer.compare", "Math.max");
    private static final int MOST_DEEP = 8;
    // a class inside, or a method with its indent, name and parameters
    private static final Pattern METHOD = Pattern.compile("(?m)^    [a-z ]*\\bclass ([A-Za-z]+) \\{$"
        + "|^( {4}| {8})(?:public |private |static )*(?:[A-Za-z]+(?:\\[\\])* )?([A-Za-z]+)\\(([^)]*)\\)[^;{]*\\{$");
    private static final List<String> REFUSED = List.of("->", "::", "\\btry\\b", "\\bcatch\\b", "\\bfinally\\b",
        "\\bsynchronized\\b", "\\bassert\\b", "\\bpackage\\b", "\\bprotected\\b", "\\bSystem\\b", "\\bObject\\b",
        "\\bstatic\\s*\\{", "\\.fill\\(\\w+, (true|false)\\)", "\"\\s*\\+", "\\+\\s*\"", "\\bequals\\b",
        "\\bhashCode\\b", "\\btoString\\b");

    public static void main(String[] args) throws Exception {
        String source = Files.readString(Path.of("src/main/java/BallotFoundry.java"));
        String code = source.replaceAll("/\\*(?s:.*?)\\*/", "").replaceAll("//[^\n]*", "");
        for (String pattern : REFUSED) {
            Matcher found = Pattern.compile(pattern).matcher(code);
            check.due("refused by the rules: " + pattern, found.find(), false);
        }
        library(code);
        exceptions(code);
        sizes(code);
        calls(code);
        fields(BallotFoundry.class);
        for (Class<?> inside : BallotFoundry.class.getDeclaredClasses()) {
            fields(inside);
            check.due(inside + " is static", Modifier.isStatic(inside.getModifiers()), true);
            check.due(inside + " is not public", Modifier.isPublic(inside.getModifiers()), false);
        }
        check.end();
    }

    private static void library(String code) {
        Set<String> own = new TreeSet<>();
        own.add("BallotFoundry");
        for (Class<?> inside : BallotFoundry.class.getDeclaredClasses()) {
            own.add(inside.getSimpleName());
        }
        TreeSet<String> foreign = new TreeSet<>();
        Matcher used = Pattern.compile("\\b([A-Z][A-Za-z]*[a-z][A-Za-z]*)\\.([a-z][A-Za-z]*)").matcher(code);
        while (used.find()) {
            if (!own.contains(used.group(1)) && !LIBRARY.contains(used.group())) {
                foreign.add(used.group());
            }
        }
        check.due("library", foreign.toString(), "[]");
        Matcher imports = Pattern.compile("import ([^;]*);").matcher(code);
        while (imports.find()) {
            check.due("import", imports.group(1), "java.util.Arrays");
        }
    }

    private static void exceptions(String code) {
        Matcher thrown = Pattern.compile("\\bthrow\\b([^;]*);").matcher(code);
        int throwing = 0;
        while (thrown.find()) {
            throwing++;
            String text = thrown.group(1).trim();
            check.due("throw " + text, text.matches("new (IndexOutOfBounds|IllegalArgument|IllegalState)"
                + "Exception\\((\"[^\"]*\")?\\)"), true);
        }
        check.due("some are thrown", throwing > 0, true);
        Matcher constructors = Pattern.compile("\\n {4,8}(?:public )?([A-Z][A-Za-z]*)\\([^)]*\\) \\{([^}]*)").matcher(code);
        while (constructors.find()) {
            check.due("throw in a constructor", constructors.group(2).contains("throw"), false);
        }
    }

    private static void sizes(String code) {
        check.due("classes beside it, at most eleven", BallotFoundry.class.getDeclaredClasses().length <= 11, true);
        String name = "";
        int start = 0;
        int depth = 0;
        String[] lines = code.split("\n");
        for (int at = 0; at < lines.length; at++) {
            if (lines[at].matches(" {4,8}[a-zA-Z][^=;]*\\(.*") && !lines[at].contains(" class ")) {
                name = lines[at].trim();
                start = at;
            }
            if (lines[at].matches(" {4,8}\\}")) {
                check.due("lines of " + name + ", at most 60", at - start <= 60, true);
            }
            depth = Math.max(depth, lines[at].length() - lines[at].replaceAll("^ +", "").length());
        }
        check.due("blocks are not deep", depth <= 24, true);
    }

    private static void calls(String code) {
        Map<String, String> bodies = new TreeMap<>();
        Matcher head = METHOD.matcher(code);
        String type = "BallotFoundry";
        while (head.find()) {
            if (head.group(1) != null) {
                type = head.group(1);
                continue;
            }
            String body = code.substring(head.end(), code.indexOf("\n" + head.group(2) + "}", head.end()));
            String name = (head.group(2).length() == 4 ? "BallotFoundry" : type) + "." + head.group(3);
            bodies.put(name, body);
            check.due("parameters of " + name + ", at most seven", head.group(4).split(",").length <= 7, true);
        }
        List<Class<?>> types = new ArrayList<>(List.of(BallotFoundry.class.getDeclaredClasses()));
        types.add(BallotFoundry.class);
        for (Class<?> own : types) {
            for (Method method : own.getDeclaredMethods()) {
                String name = own.getSimpleName() + "." + method.getName();
                check.due("the body of " + name + " is found", bodies.containsKey(name), true);
            }
        }
        Map<String, Set<String>> called = new TreeMap<>();
        for (String name : bodies.keySet()) {
            called.put(name, calledBy(name, bodies));
        }
        for (String name : called.keySet()) {
            check.due("calls from " + name + ", at most eight deep", deepest(name, called, 1) <= MOST_DEEP, true);
        }
    }

    /** A call behind a dot may be any method of that name in another class, so nothing is missed. */
    private static Set<String> calledBy(String name, Map<String, String> bodies) {
        Set<String> names = new TreeSet<>();
        String type = name.substring(0, name.indexOf('.'));
        Matcher call = Pattern.compile("(\\.|\\bnew )?\\b([A-Za-z]+)\\(").matcher(bodies.get(name));
        while (call.find()) {
            String own = type + "." + call.group(2);
            boolean isOfAnother = false;
            for (String other : bodies.keySet()) {
                boolean isNamed = other.endsWith("." + call.group(2));
                if (isNamed && call.group(1) != null && !other.equals(own)) {
                    names.add(other);
                    isOfAnother = true;
                }
            }
            if (!isOfAnother && bodies.containsKey(own)) {
                names.add(own);
            }
        }
        return names;
    }

    private static int deepest(String name, Map<String, Set<String>> called, int depth) {
        int most = depth;
        // a method that calls itself goes deeper than any bound
        if (depth <= MOST_DEEP) {
            for (String next : called.get(name)) {
                most = Math.max(most, deepest(next, called, depth + 1));
            }
        }
        return most;
    }

    private static void fields(Class<?> type) {
        int own = 0;
        for (Field field : type.getDeclaredFields()) {
            if (!Modifier.isStatic(field.getModifiers())) {
                own++;
            } else {
                check.due(field + " is final", Modifier.isFinal(field.getModifiers()), true);
                check.due(field + " is a number", field.getType() == int.class, true);
            }
        }
        check.due("fields of " + type + ", at most twenty", own <= 20, true);
    }
}
