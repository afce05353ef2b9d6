import java.lang.reflect.Field;
import java.lang.reflect.Modifier;
import java.nio.file.Files;
import java.nio.file.Path;
import java.util.List;
import java.util.Set;
import java.util.TreeSet;
import java.util.regex.Matcher;
import java.util.regex.Pattern;

/** The rules of LANGUAGE.md that can be seen from the text of the class. */
public final class LanguageTest {
    private static final Check check = new Check("LanguageTest");
    private static final Set<String> LIBRARY = Set.of("Arrays.fill", "Integer.compare", "Math.max");
    private static final List<String> REFUSED = List.of("->", "::", "\\btry\\b", "\\bcatch\\b", "\\bfinally\\b",
        "\\bsynchronized\\b", "\\bassert\\b", "\\bpackage\\b", "\\bprotected\\b", "\\bSystem\\b", "\\bObject\\b",
        "\\bstatic\\s*\\{", "\\.fill\\(\\w+, (true|false)\\)", "\"\\s*\\+", "\\+\\s*\"", "\\bequals\\b",
        "\\bhashCode\\b", "\\btoString\\b");

    public static void main(String[] args) throws Exception {
        String source = Files.readString(Path.of("src/main/java/BallotFoundry.java"));
        String code = source.replaceAll("/\\*(?s:.*?)\\*/", "").replaceAll("//[^\n]*", "");
        for (String pattern : REFUSED) {
            Matcher found = Pattern.compile(pattern).matcher(code);
            check.due("refused by the rules: " + pattern, found.find(), false);
        }
        library(code);
        exceptions(code);
        sizes(code);
        fields(BallotFoundry.class);
        for (Class<?> inside : BallotFoundry.class.getDeclaredClasses()) {
            fields(inside);
            check.due(inside + " is static", Modifier.isStatic(inside.getModifiers()), true);
            check.due(inside + " is not public", Modifier.isPublic(inside.getModifiers()), false);
        }
        check.end();
    }

    private static void library(String code) {
        Set<String> own = new TreeSet<>();
        own.add("BallotFoundry");
        for (Class<?> inside : BallotFoundry.class.getDeclaredClasses()) {
            own.add(inside.getSimpleName());
        }
        TreeSet<String> foreign = new TreeSet<>();
        Matcher used = Pattern.compile("\\b([A-Z][A-Za-z]*[a-z][A-Za-z]*)\\.([a-z][A-Za-z]*)").matcher(code);
        while (used.find()) {
            if (!own.contains(used.group(1)) && !LIBRARY.contains(used.group())) {
                foreign.add(used.group());
            }
        }
        check.due("library", foreign.toString(), "[]");
        Matcher imports = Pattern.compile("import ([^;]*);").matcher(code);
        while (imports.find()) {
            check.due("import", imports.group(1), "java.util.Arrays");
        }
    }

    private static void exceptions(String code) {
        Matcher thrown = Pattern.compile("\\bthrow\\b([^;]*);").matcher(code);
        int throwing = 0;
        while (thrown.find()) {
            throwing++;
            String text = thrown.group(1).trim();
            check.due("throw " + text, text.matches("new (IndexOutOfBounds|IllegalArgument|IllegalState)"
                + "Exception\\((\"[^\"]*\")?\\)"), true);
        }
        check.due("some are thrown", throwing > 0, true);
        Matcher constructors = Pattern.compile("\\n {4,8}(?:public )?([A-Z][A-Za-z]*)\\([^)]*\\) \\{([^}]*)").matcher(code);
        while (constructors.find()) {
            check.due("throw in a constructor", constructors.group(2).contains("throw"), false);
        }
    }

    private static void sizes(String code) {
        check.due("classes beside it, at most eleven", BallotFoundry.class.getDeclaredClasses().length <= 11, true);
        String name = "";
        int start = 0;
        int depth = 0;
        String[] lines = code.split("\n");
        for (int at = 0; at < lines.length; at++) {
            if (lines[at].matches(" {4,8}[a-zA-Z][^=;]*\\(.*") && !lines[at].contains(" class ")) {
                name = lines[at].trim();
                start = at;
            }
            if (lines[at].matches(" {4,8}\\}")) {
                check.due("lines of " + name + ", at most 60", at - start <= 60, true);
            }
            depth = Math.max(depth, lines[at].length() - lines[at].replaceAll("^ +", "").length());
        }
        check.due("blocks are not deep", depth <= 24, true);
    }

    private static void fields(Class<?> type) {
        int own = 0;
        for (Field field : type.getDeclaredFields()) {
            if (!Modifier.isStatic(field.getModifiers())) {
                own++;
            } else {
                check.due(field + " is final", Modifier.isFinal(field.getModifiers()), true);
                check.due(field + " is a number", field.getType() == int.class, true);
            }
        }
        check.due("fields of " + type + ", at most twenty", own <= 20, true);
    }
}
