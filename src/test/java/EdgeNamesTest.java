import java.lang.reflect.Method;

/** Each promise and each term with an edge has tests named after it among those of edges. */
public final class EdgeNamesTest {
    private static final Class<?>[] TESTS = {TextEdgeTest.class, HearingEdgeTest.class, SearchEdgeTest.class,
        KeptEdgeTest.class};
    /** PROOF, KIND, ORDER and LOAF have theirs by their promises. */
    private static final String[] TERMS = {"Court", "Sayings", "Rules", "Birds", "Counsel", "Law", "Walk", "Values",
        "Work", "Book", "Numbers", "Words", "Blanks", "Faults", "Fault1", "Fault2", "Fault3", "First", "On", "Counts",
        "Steps", "Call", "Lead", "Put", "Note", "Minute", "Heard", "Concluded", "Lean", "Asked", "Hide", "Turn", "Fits",
        "Look", "Term"};

    private static int testsNamed(String start) {
        int many = 0;
        for (Class<?> tests : TESTS) {
            for (Method method : tests.getDeclaredMethods()) {
                if (method.getName().startsWith(start)) {
                    many++;
                }
            }
        }
        return many;
    }

    public static void main(String[] args) {
        Check check = new Check();
        for (int promise = 1; promise <= 44; promise++) {
            String start = String.format("promise%02d", promise);
            check.same(start + " has a test", testsNamed(start) > 0 ? 1 : 0, 1);
        }
        for (String term : TERMS) {
            check.same(term + " has a test", testsNamed("term" + term + "_") > 0 ? 1 : 0, 1);
        }
        check.end("EdgeNamesTest");
    }
}
