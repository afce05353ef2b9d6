import java.io.IOException;
import java.lang.reflect.Method;
import java.lang.reflect.Modifier;
import java.net.URL;
import java.net.URLClassLoader;
import java.nio.file.Files;
import java.nio.file.Path;
import java.util.List;
import java.util.regex.Matcher;
import java.util.regex.Pattern;
import javax.tools.ToolProvider;

/** README.md names each call of the face, and the calls of its example answer what it says. */
public final class ReadmeTest {
    private static final Check check = new Check("ReadmeTest");
    private static final Pattern CALL = Pattern.compile("(?:int (\\w+) = )?(town\\.[^;]*); *// (\\w+): .*");

    public static void main(String[] args) throws Exception {
        String readme = Files.readString(Path.of("README.md"));
        for (Method method : BallotFoundry.class.getDeclaredMethods()) {
            String name = method.getName();
            if (Modifier.isPublic(method.getModifiers())) {
                check.due("README.md names " + name, readme.contains("`" + name + "`"), true);
            }
        }
        int start = readme.indexOf("```java\n") + 8;
        List<String> lines = readme.substring(start, readme.indexOf("```", start)).lines().toList();
        check.due("the first line", lines.get(0), "BallotFoundry town = new BallotFoundry();");
        example(lines.subList(1, lines.size()));
        check.end();
    }

    private static void example(List<String> lines) throws Exception {
        StringBuilder program = new StringBuilder("public final class Example {\n"
            + "public static String answers() {\nStringBuilder all = new StringBuilder();\n"
            + "BallotFoundry town = new BallotFoundry();\n");
        StringBuilder due = new StringBuilder();
        for (String line : lines) {
            Matcher call = CALL.matcher(line);
            check.due("has a call and its answer: " + line, call.matches(), true);
            if (!call.matches()) {
                continue;
            }
            String answer = call.group(1) == null ? call.group(2) : call.group(1);
            if (call.group(1) != null) {
                program.append("int ").append(answer).append(" = ").append(call.group(2)).append(";\n");
            }
            program.append("all.append(").append(answer).append(").append('\\n');\n");
            due.append(call.group(3)).append('\n');
        }
        check.due("the example", answersOf(program.append("return all.toString();\n}\n}\n").toString()), due.toString());
    }

    private static String answersOf(String program) throws Exception {
        Path folder = Files.createTempDirectory("readme");
        Path source = folder.resolve("Example.java");
        Path compiled = folder.resolve("Example.class");
        try {
            Files.writeString(source, program);
            int failed = ToolProvider.getSystemJavaCompiler().run(null, null, null, "-proc:none",
                "-cp", System.getProperty("java.class.path"), "-d", folder.toString(), source.toString());
            return failed == 0 ? run(folder) : "does not compile";
        } finally {
            for (Path made : List.of(source, compiled, folder)) {
                Files.deleteIfExists(made);
            }
        }
    }

    private static String run(Path folder) throws IOException, ReflectiveOperationException {
        try (URLClassLoader loader = new URLClassLoader(new URL[] {folder.toUri().toURL()})) {
            return (String) loader.loadClass("Example").getMethod("answers").invoke(null);
        }
    }
}
