import java.io.IOException;
import java.lang.reflect.InvocationTargetException;
import java.lang.reflect.Method;
import java.nio.file.Files;
import java.nio.file.Path;
import java.util.ArrayList;
import java.util.Comparator;
import java.util.List;

/**
 * Runs a test for each sentence of the document that names a boundary case. Each test names its
 * promise and the sentence's words, which must stand in the document.
 */
public final class SentencesTest {
    private static final Class<?>[] TESTS = {
        LogSentences.class, RibbonSentences.class, LeafSentences.class, ClippingSentences.class, KnifeSentences.class,
    };
    private static final Path DOCUMENT = Path.of("../shared/DOC.md");
    private static final int PROMISES = 18;

    private static int wrong = 0;

    public static void main(String[] args) throws Exception {
        List<Method> tests = tests();
        for (Method test : tests) {
            run(test);
        }
        lookUp(tests);
        everyPromise(tests);
        wrong += Due.wrongs();
        System.out.println(wrong == 0 ? tests.size() + " tests of sentences hold" : wrong + " are not as due");
        if (wrong != 0) {
            System.exit(1);
        }
    }

    private static void run(Method test) throws IllegalAccessException {
        Sentence sentence = test.getAnnotation(Sentence.class);
        String name = "promise " + sentence.promise() + ", \"" + sentence.says() + "\", " + test.getName();
        Due.begin(name);
        try {
            test.invoke(null);
        } catch (InvocationTargetException e) {
            tell(name + ": a call to make ready threw " + e.getCause());
        }
    }

    private static List<Method> tests() {
        List<Method> tests = new ArrayList<>();
        for (Class<?> each : TESTS) {
            for (Method method : each.getDeclaredMethods()) {
                if (method.isAnnotationPresent(Sentence.class)) {
                    tests.add(method);
                }
            }
        }
        tests.sort(Comparator.comparing(SentencesTest::promiseOf).thenComparing(Method::getName));
        return tests;
    }

    private static int promiseOf(Method test) {
        return test.getAnnotation(Sentence.class).promise();
    }

    private static void everyPromise(List<Method> tests) {
        for (int promise = 1; promise <= PROMISES; promise++) {
            int number = promise;
            if (tests.stream().noneMatch(test -> promiseOf(test) == number)) {
                tell("no test is of promise " + promise);
            }
        }
    }

    /** A sentence stands under the terms or under its own promise. */
    private static void lookUp(List<Method> tests) throws IOException {
        if (!Files.isReadable(DOCUMENT)) {
            System.out.println("the document is not there, so no sentence was looked up in it");
            return;
        }
        String document = Files.readString(DOCUMENT);
        for (Method test : tests) {
            String says = test.getAnnotation(Sentence.class).says();
            String promise = "## Promise " + promiseOf(test) + ":";
            if (!section(document, "## Terms").contains(says) && !section(document, promise).contains(says)) {
                tell(test.getName() + ": the document does not say \"" + says + "\"");
            }
        }
    }

    private static String section(String document, String heading) {
        int begin = document.indexOf(heading);
        int end = document.indexOf("\n## ", begin + 1);
        return begin < 0 ? "" : document.substring(begin, end < 0 ? document.length() : end);
    }

    private static void tell(String text) {
        wrong++;
        System.out.println(text);
    }
}
