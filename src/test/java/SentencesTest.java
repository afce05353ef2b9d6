import java.lang.reflect.InvocationTargetException;
import java.lang.reflect.Method;
import java.nio.file.Files;
import java.nio.file.Path;
import java.util.ArrayList;
import java.util.Arrays;
import java.util.Comparator;
import java.util.List;

/**
 * Each sentence of 'Terms' and of the promises has a test of its own, that holds, and that fails
 * with the class changed so that the sentence is broken.
 */
public final class SentencesTest {
    private static final List<Class<?>> TESTS = List.of(TermsTownSentences.class, TermsElectionSentences.class,
        TermsCountingSentences.class, TermsBookSentences.class, FirstNamedSentences.class, TownSentences.class,
        PeopleSentences.class, ElectionSentences.class, RollSentences.class, VotesSentences.class,
        CountingSentences.class, SeatsSentences.class, BookSentences.class);

    private static final Check check = new Check("SentencesTest");

    public static void main(String[] args) throws Exception {
        Document document = new Document(Path.of(args.length > 0 ? args[0] : "../shared", "DOC.md"));
        List<Method> tests = tests();
        for (Method test : tests) {
            holds(test);
        }
        claims(document, tests);
        String plain = Mutant.plain(Files.readString(Path.of("src/main/java/BallotFoundry.java")));
        long wrong = tests.parallelStream().mapToLong(test -> survivors(test, plain)).sum();
        check.due("changes that no test sees", wrong, 0);
        check.end();
    }

    private static List<Method> tests() {
        List<Method> tests = new ArrayList<>();
        for (Class<?> type : TESTS) {
            Method[] methods = type.getDeclaredMethods();
            Arrays.sort(methods, Comparator.comparing(Method::getName));
            for (Method method : methods) {
                if (method.isAnnotationPresent(Sentence.class)) {
                    tests.add(method);
                }
            }
        }
        return tests;
    }

    private static void holds(Method test) throws IllegalAccessException {
        Check own = new Check(nameOf(test));
        try {
            test.invoke(null, own);
        } catch (InvocationTargetException thrown) {
            check.due(nameOf(test) + " threw", String.valueOf(thrown.getCause()), "nothing");
        }
        check.due(nameOf(test) + ", checks", own.checked() > 0, true);
        check.due(nameOf(test) + ", wrong", own.wrong(), 0);
    }

    private static String nameOf(Method test) {
        return test.getDeclaringClass().getName() + "." + test.getName();
    }

    private static void claims(Document document, List<Method> tests) {
        check.due("promises", document.promises(), 37);
        for (Method test : tests) {
            Sentence sentence = test.getAnnotation(Sentence.class);
            for (String words : sentence.value()) {
                check.due(nameOf(test) + " has words of the document: " + words,
                    document.claim(sentence.promise(), words), true);
            }
        }
        check.due("words without a test", String.join("\n", document.unclaimed()), "");
    }

    private static long survivors(Method test, String plain) {
        Broken[] all = test.getAnnotationsByType(Broken.class);
        long survivors = all.length == 0 ? 1 : 0;
        if (all.length == 0) {
            System.out.println(nameOf(test) + ": no change of the class breaks it");
        }
        for (Broken broken : all) {
            String fault = faultOf(test, broken, plain);
            if (!fault.isEmpty()) {
                System.out.println(nameOf(test) + ": " + fault + ": " + broken);
                survivors++;
            }
        }
        return survivors;
    }

    private static String faultOf(Method test, Broken broken, String plain) {
        String changed = Mutant.change(plain, broken);
        if (changed == null) {
            return "no such place in the class, or two";
        }
        try (Mutant mutant = Mutant.of(changed)) {
            if (mutant == null) {
                return "the change does not compile";
            }
            return mutant.wrongOf(test) > 0 ? "" : "the test does not see the change";
        } catch (Exception thrown) {
            return thrown.toString();
        }
    }
}
