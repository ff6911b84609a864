import java.lang.reflect.InvocationTargetException;
import java.lang.reflect.Method;
import java.lang.reflect.Modifier;
import java.nio.file.Path;
import java.util.Arrays;
import java.util.Comparator;
import java.util.HashSet;
import java.util.Set;

/**
 * Each sentence of the document that names a boundary case has a test of its own, marked with the
 * sentence. All of them are run; and each sentence has to stand in the document, and each one that
 * stands there has to have a test, but for those that name no boundary case.
 */
final class BoundaryTest {
    private static final Class<?>[] GROUPS = {TermsSentences.class, CounterSentences.class, StreamSentences.class,
        HalfSentences.class, SignedSentences.class};

    private static final Set<String> WITHOUT_BOUNDARY = Set.of(
            "Streams can be merged.",
            "Items stream in with weights, and everything can be asked beside plain counts.",
            "Halves.", "Careful sketches.", "Signed sketches.", "Few counters.");

    private static final String CAPTION = "Ahead of the calls ";

    private static int tests = 0;

    public static void main(String[] args) throws Exception {
        Path root = Path.of(args.length > 0 ? args[0] : ".");
        Document document = new Document(root.resolve("../shared/DOC.md"));
        Set<String> tested = new HashSet<>();
        for (Class<?> group : GROUPS) {
            Method[] methods = group.getDeclaredMethods();
            Arrays.sort(methods, Comparator.comparing(Method::getName));
            for (Method method : methods) {
                Sentence sentence = method.getAnnotation(Sentence.class);
                if (sentence != null) {
                    Check.about(method.getName() + " (" + sentence.of() + ": \"" + sentence.says() + "\"): ");
                    Check.holds("the sentence stands there", document.under(sentence.of()).contains(sentence.says()));
                    run(method);
                    tested.add(sentence.of() + ": " + sentence.says());
                } else {
                    Check.holds(method + " is a test or private", Modifier.isPrivate(method.getModifiers()));
                }
            }
        }
        Check.about("");
        checkThatAllAreTested(document, tested);
        System.out.println("BoundaryTest: " + tests + " tests of " + tested.size() + " sentences");
        Check.end("BoundaryTest");
    }

    private static void run(Method test) throws IllegalAccessException {
        int before = Check.comparisons();
        try {
            test.setAccessible(true);
            test.invoke(null);
        } catch (InvocationTargetException e) {
            Check.same("the test", "comes to its end", "throws " + e.getCause());
        }
        Check.holds("something is compared", Check.comparisons() > before);
        tests++;
    }

    private static void checkThatAllAreTested(Document document, Set<String> tested) {
        checkSection(document, "Terms", tested);
        for (int promise = 1; promise <= 26; promise++) {
            checkSection(document, "Promise " + promise, tested);
        }
    }

    private static void checkSection(Document document, String heading, Set<String> tested) {
        Check.holds(heading + " has sentences", !document.under(heading).isEmpty());
        for (String sentence : document.under(heading)) {
            boolean needed = !sentence.startsWith(CAPTION) && !WITHOUT_BOUNDARY.contains(sentence);
            Check.holds("\"" + sentence + "\" of " + heading + " has a test",
                    !needed || tested.contains(heading + ": " + sentence));
        }
    }
}
