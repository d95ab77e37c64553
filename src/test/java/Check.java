import java.util.Set;
import java.util.TreeSet;

/** Counts answers that are not as due; every test class ends with end(). */
final class Check {
    private static final int MOST_TOLD = 40;
    private static final Set<String> TESTS = new TreeSet<>();
    private static int looked = 0;
    private static int wrong = 0;
    private static String test = "";

    private Check() {
    }

    /** From here on answers belong to the test with this name: a promise and what it says there. */
    static void test(String name) {
        TESTS.add(name);
        test = name + ": ";
    }

    static void due(String call, long got, long want) {
        looked++;
        if (got != want) {
            wrong++;
            if (wrong <= MOST_TOLD) {
                System.out.println(test + call + " answered " + got + ", due is " + want);
            }
        }
    }

    static void due(String call, boolean got, boolean want) {
        due(call, got ? 1L : 0L, want ? 1L : 0L);
    }

    /** A call that must be refused: its answer, and what refused() tells behind it. */
    static void refused(GraphEngine x, String call, long got, long want, int why) {
        due(call, got, want);
        due(call + ", then refused()", x.refused(), why);
    }

    /** A call that makes something and must be refused. */
    static void refused(GraphEngine x, String call, long got, int why) {
        refused(x, call, got, why, why);
    }

    /** A call that asks and must be refused. */
    static void denied(GraphEngine x, String call, long got, int why) {
        refused(x, call, got, 0, why);
    }

    /** A call that must not be refused. */
    static void fine(GraphEngine x, String call, long got, long want) {
        refused(x, call, got, want, 0);
    }

    static void end() {
        String answers = wrong == 0 ? looked + " answers are as due" : wrong + " of " + looked + " answers are not as due";
        System.out.println(TESTS.size() + " tests: " + answers);
        if (wrong != 0) {
            System.exit(1);
        }
    }
}
