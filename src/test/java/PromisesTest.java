import java.io.IOException;
import java.lang.reflect.Method;
import java.nio.file.Files;
import java.nio.file.Path;
import java.util.HashMap;
import java.util.Map;

/** Every promise has tests, and what a test says that the document says stands there. */
public final class PromisesTest {
    private static final Check CHECK = new Check("PromisesTest");
    private static final int PROMISES = 37;
    private static final Path DOCUMENT = Path.of("../shared/DOC.md");

    private static final Class<?>[] TESTS = {
        MineTest.class, ThingsTest.class, WaysTest.class, WaterTest.class, PlumbsTest.class, ChanceTest.class,
        SheetsTest.class, DigestTest.class, RefusalsTest.class};

    public static void main(String[] args) throws IOException {
        Map<String, String> sections = sections(Files.readString(DOCUMENT));
        int[] tests = new int[PROMISES + 1];
        for (Class<?> one : TESTS) {
            for (Method test : Check.testsOf(one)) {
                Promise promise = Check.promiseOf(test);
                String where = one.getSimpleName() + "." + test.getName();
                boolean known = promise.number() >= 1 && promise.number() <= PROMISES;
                CHECK.holds(where + " is of a promise", known);
                CHECK.holds(where + ": promise " + promise.number() + " says '" + promise.says() + "'",
                        known && stands(sections, promise));
                tests[known ? promise.number() : 0]++;
            }
        }
        for (int number = 1; number <= PROMISES; number++) {
            CHECK.holds("promise " + number + " has a test", tests[number] > 0);
        }
        CHECK.end();
    }

    /** The document's sections by their titles, each on one line. */
    private static Map<String, String> sections(String document) {
        Map<String, String> sections = new HashMap<>();
        for (String section : document.split("(?m)^## ")) {
            String title = section.lines().findFirst().orElse("").replaceAll(":.*", "");
            sections.put(title, section.replaceAll("\\s+", " "));
        }
        return sections;
    }

    private static boolean stands(Map<String, String> sections, Promise promise) {
        String[] titles = {"Promise " + promise.number(), "Terms", "What it is"};
        for (String title : titles) {
            if (sections.getOrDefault(title, "").contains(promise.says())) {
                return true;
            }
        }
        return false;
    }
}
