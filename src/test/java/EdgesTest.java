import java.lang.reflect.InvocationTargetException;
import java.lang.reflect.Method;
import java.util.ArrayList;
import java.util.Comparator;
import java.util.List;
import java.util.regex.Matcher;
import java.util.regex.Pattern;

/**
 * Runs the tests of edges: one for each sentence of the document that names a boundary case. Looks, too, that the
 * words that they are held to stand in the document, and that no refusal or range of a promise is without a test.
 */
public final class EdgesTest {
    private static final Class<?>[] TESTS = {ChantEdges.class, CarpetEdges.class, BorderEdges.class,
        ShelfEdges.class, RefusalEdges.class};
    private static final Pattern NAME = Pattern.compile("p(\\d\\d)_\\w+");
    /** What names an edge for sure: a refusal, an exception, a range, a limit, a kind of what. */
    private static final Pattern EDGE = Pattern.compile(
            "-\\d+|Illegal\\w+|\\d+ \\.\\. \\d+|what = \\d|\\d+ at most|there are \\d+|up to \\d+|more than \\d+");

    private final Document document = Document.read();
    private final List<Method> tests = new ArrayList<>();
    private int passed;
    private int failed;

    private EdgesTest() throws java.io.IOException {
        for (Class<?> holder : TESTS) {
            for (Method method : holder.getDeclaredMethods()) {
                if (method.isAnnotationPresent(Says.class)) {
                    tests.add(method);
                }
            }
        }
        tests.sort(Comparator.comparing(Method::getName));
    }

    public static void main(String[] args) throws Exception {
        EdgesTest all = new EdgesTest();
        for (Method test : all.tests) {
            all.run(test);
        }
        all.namesAreTold();
        all.edgesHaveTests();
        System.out.println(all.passed + " passed, " + all.failed + " failed");
        Checks.end();
    }

    private void run(Method test) throws IllegalAccessException {
        int before = Checks.wrong();
        int askedBefore = Checks.asked();
        try {
            test.invoke(null);
        } catch (InvocationTargetException e) {
            Checks.fail(test.getName() + " met " + e.getCause());
        }
        if (Checks.asked() == askedBefore) {
            Checks.fail(test.getName() + " asks nothing");
        }
        if (Checks.wrong() == before) {
            passed++;
        } else {
            failed++;
            System.out.println("^ " + test.getName() + ": " + words(test));
        }
    }

    private static String words(Method test) {
        return test.getAnnotation(Says.class).value();
    }

    /** The promise that a test's name begins with; 0 if it begins otherwise. */
    private static int promiseOf(Method test) {
        Matcher name = NAME.matcher(test.getName());
        return name.matches() ? Integer.parseInt(name.group(1)) : 0;
    }

    private void namesAreTold() {
        for (Method test : tests) {
            int promise = promiseOf(test);
            Checks.due(promise >= 1 && promise <= Document.PROMISES ? 1 : 0, 1);
            if (!document.says(promise, words(test))) {
                Checks.fail(test.getName() + ": the document doesn't say there '" + words(test) + "'");
            }
        }
    }

    private void edgesHaveTests() {
        for (int promise = 1; promise <= Document.PROMISES; promise++) {
            StringBuilder held = new StringBuilder();
            for (Method test : tests) {
                if (promiseOf(test) == promise) {
                    held.append(words(test)).append('\n');
                }
            }
            Checks.due(held.length() > 0 ? 1 : 0, 1);
            Matcher edge = EDGE.matcher(document.promise(promise));
            while (edge.find()) {
                if (!Pattern.compile(Pattern.quote(edge.group()) + "(?!\\d)").matcher(held).find()) {
                    Checks.fail("promise " + promise + ": no test is held to '" + edge.group() + "'");
                }
            }
        }
    }
}
