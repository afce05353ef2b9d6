import java.io.ByteArrayOutputStream;
import java.io.IOException;
import java.io.OutputStream;
import java.io.StringWriter;
import java.lang.reflect.Constructor;
import java.lang.reflect.InvocationTargetException;
import java.lang.reflect.Method;
import java.net.MalformedURLException;
import java.net.URI;
import java.net.URL;
import java.net.URLClassLoader;
import java.nio.file.Path;
import java.util.ArrayList;
import java.util.HashMap;
import java.util.List;
import java.util.Map;
import javax.tools.FileObject;
import javax.tools.ForwardingJavaFileManager;
import javax.tools.JavaCompiler;
import javax.tools.JavaFileManager;
import javax.tools.JavaFileObject;
import javax.tools.SimpleJavaFileObject;
import javax.tools.StandardJavaFileManager;
import javax.tools.ToolProvider;

/** The class with a change in it, compiled in memory, with the tests loaded anew around it. */
final class Mutant extends URLClassLoader {
    private final Map<String, byte[]> changed;

    private Mutant(Map<String, byte[]> changed) throws MalformedURLException {
        super(ownClasses(), ClassLoader.getPlatformClassLoader());
        this.changed = changed;
    }

    private static URL[] ownClasses() throws MalformedURLException {
        List<URL> places = new ArrayList<>();
        for (String place : System.getProperty("java.class.path").split(System.getProperty("path.separator"))) {
            places.add(Path.of(place).toUri().toURL());
        }
        return places.toArray(new URL[0]);
    }

    @Override
    protected Class<?> findClass(String name) throws ClassNotFoundException {
        byte[] bytes = changed.get(name);
        return bytes == null ? super.findClass(name) : defineClass(name, bytes, 0, bytes.length);
    }

    static String plain(String source) {
        return source.replaceAll("/\\*(?s:.*?)\\*/", "").replaceAll("//[^\n]*", "").replaceAll("\\s+", " ");
    }

    /** Answers the changed text, or null if there is no such place in it, or two. */
    static String change(String plain, Broken broken) {
        int at = plain.indexOf(broken.at());
        boolean isOnce = broken.at().isEmpty()
            ? plain.indexOf(broken.from()) == plain.lastIndexOf(broken.from())
            : at == plain.lastIndexOf(broken.at());
        int from = at < 0 ? -1 : plain.indexOf(broken.from(), at);
        if (from < 0 || !isOnce) {
            return null;
        }
        return plain.substring(0, from) + broken.to() + plain.substring(from + broken.from().length());
    }

    /** Answers null if the text does not compile. */
    static Mutant of(String source) throws IOException {
        JavaCompiler compiler = ToolProvider.getSystemJavaCompiler();
        try (Classes classes = new Classes(compiler.getStandardFileManager(null, null, null))) {
            boolean isGood = compiler.getTask(new StringWriter(), classes, null,
                List.of("-proc:none"), null, List.of(new Source(source))).call();
            return isGood ? new Mutant(classes.bytes()) : null;
        }
    }

    /** How many answers of a test are wrong with the change. */
    int wrongOf(Method test) throws ReflectiveOperationException {
        Class<?> checks = loadClass("Check");
        Constructor<?> made = checks.getDeclaredConstructor(String.class, boolean.class);
        made.setAccessible(true);
        Object check = made.newInstance(test.getName(), true);
        Method same = loadClass(test.getDeclaringClass().getName()).getDeclaredMethod(test.getName(), checks);
        same.setAccessible(true);
        Method wrong = checks.getDeclaredMethod("wrong");
        wrong.setAccessible(true);
        try {
            same.invoke(null, check);
        } catch (InvocationTargetException thrown) {
            return 1;
        }
        return (int) wrong.invoke(check);
    }

    private static final class Source extends SimpleJavaFileObject {
        private final String text;

        Source(String text) {
            super(URI.create("string:///BallotFoundry.java"), Kind.SOURCE);
            this.text = text;
        }

        @Override
        public CharSequence getCharContent(boolean ignoreEncodingErrors) {
            return text;
        }
    }

    private static final class Classes extends ForwardingJavaFileManager<StandardJavaFileManager> {
        private final Map<String, ByteArrayOutputStream> written = new HashMap<>();

        Classes(StandardJavaFileManager manager) {
            super(manager);
        }

        @Override
        public JavaFileObject getJavaFileForOutput(JavaFileManager.Location location, String name,
                JavaFileObject.Kind kind, FileObject sibling) {
            ByteArrayOutputStream bytes = new ByteArrayOutputStream();
            written.put(name, bytes);
            return new SimpleJavaFileObject(URI.create("string:///" + name + kind.extension), kind) {
                @Override
                public OutputStream openOutputStream() {
                    return bytes;
                }
            };
        }

        Map<String, byte[]> bytes() {
            Map<String, byte[]> all = new HashMap<>();
            written.forEach((name, bytes) -> all.put(name, bytes.toByteArray()));
            return all;
        }
    }
}
