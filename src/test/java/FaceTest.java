import java.lang.reflect.Constructor;
import java.lang.reflect.Field;
import java.lang.reflect.Method;
import java.lang.reflect.Modifier;
import java.nio.file.Files;
import java.nio.file.Path;
import java.util.ArrayList;
import java.util.List;
import java.util.TreeSet;

/** The public face, as the document writes it, and nothing beside it. */
public final class FaceTest {
    private static final Check check = new Check("FaceTest");

    public static void main(String[] args) throws Exception {
        String shared = args.length > 0 ? args[0] : "../shared";
        TreeSet<String> written = facesOf(Files.readString(Path.of(shared, "DOC.md")));
        TreeSet<String> built = faceOf(BallotFoundry.class);
        check.due("the face", built.toString(), written.toString());
        check.due("public and final", Modifier.toString(BallotFoundry.class.getModifiers()), "public final");
        constants();
        nothingElseIsOpen();
        noPrivateNameOfTheFace();
        check.end();
    }

    private static TreeSet<String> facesOf(String document) {
        String face = document.substring(document.indexOf("```java") + 7);
        face = face.substring(face.indexOf('{') + 1, face.indexOf("```"));
        TreeSet<String> lines = new TreeSet<>();
        for (String line : face.split("\n")) {
            String text = line.trim();
            if (!text.startsWith("public ")) {
                continue;
            }
            if (text.startsWith("public static final int ")) {
                for (String constant : text.substring(24, text.length() - 1).split(", ")) {
                    lines.add("public static final int " + constant);
                }
            } else {
                lines.add(text.substring(0, text.length() - 1));
            }
        }
        return lines;
    }

    private static TreeSet<String> faceOf(Class<?> type) throws Exception {
        TreeSet<String> lines = new TreeSet<>();
        for (Field field : type.getFields()) {
            lines.add(Modifier.toString(field.getModifiers()) + " int " + field.getName() + " = " + field.getInt(null));
        }
        for (Constructor<?> constructor : type.getConstructors()) {
            lines.add("public " + type.getSimpleName() + "()" + (constructor.getParameterCount() == 0 ? "" : "?"));
        }
        String source = Files.readString(Path.of("src/main/java/BallotFoundry.java"));
        for (Method method : type.getMethods()) {
            if (method.getDeclaringClass() == type) {
                lines.add(lineOf(method, source));
            }
        }
        return lines;
    }

    /** The names of the parameters are not kept in a class file, so they are read from the source. */
    private static String lineOf(Method method, String source) {
        String head = "public " + method.getReturnType().getName() + " " + method.getName() + "(";
        int start = source.indexOf(head);
        if (start < 0) {
            return head + " is not in the source";
        }
        String text = source.substring(start, source.indexOf('{', start)).trim();
        return text.replaceAll("\\s+", " ");
    }

    private static void constants() {
        check.due("NONE", BallotFoundry.NONE, -1);
        check.due("BLANK", BallotFoundry.BLANK, 5);
        int[] stages = {BallotFoundry.NO_ELECTION, BallotFoundry.CALLED, BallotFoundry.EARLY,
            BallotFoundry.VOTING, BallotFoundry.COUNTING, BallotFoundry.DONE};
        for (int stage = 0; stage < stages.length; stage++) {
            check.due("stage " + stage, stages[stage], stage);
        }
        int[] states = {BallotFoundry.SEALED, BallotFoundry.VOID, BallotFoundry.OPENED};
        for (int state = 0; state < states.length; state++) {
            check.due("state " + state, states[state], state);
        }
    }

    private static void nothingElseIsOpen() {
        List<String> open = new ArrayList<>();
        int known = Modifier.PRIVATE | Modifier.PUBLIC;
        for (Field field : BallotFoundry.class.getDeclaredFields()) {
            if (!field.isSynthetic() && (field.getModifiers() & known) == 0) {
                open.add(field.getName());
            }
        }
        for (Method method : BallotFoundry.class.getDeclaredMethods()) {
            if (!method.isSynthetic() && (method.getModifiers() & known) == 0) {
                open.add(method.getName());
            }
        }
        check.due("members beside the face", open.toString(), "[]");
    }

    private static void noPrivateNameOfTheFace() {
        TreeSet<String> names = new TreeSet<>();
        for (Method method : BallotFoundry.class.getMethods()) {
            names.add(method.getName());
        }
        TreeSet<String> twice = new TreeSet<>();
        for (Method method : BallotFoundry.class.getDeclaredMethods()) {
            if (!Modifier.isPublic(method.getModifiers()) && names.contains(method.getName())) {
                twice.add(method.getName());
            }
        }
        for (Class<?> inside : BallotFoundry.class.getDeclaredClasses()) {
            for (Method method : inside.getDeclaredMethods()) {
                if (names.contains(method.getName())) {
                    twice.add(inside.getSimpleName() + "." + method.getName());
                }
            }
        }
        check.due("private names of the face", twice.toString(), "[]");
    }
}
