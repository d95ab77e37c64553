/** Counts answers that are not as due; every test ends with end(). */
final class Check {
    private static int looked = 0;
    private static int wrong = 0;

    private Check() {
    }

    static void due(String call, long got, long want) {
        looked++;
        if (got != want) {
            wrong++;
            if (wrong <= 40) {
                System.out.println(call + " answered " + got + ", due is " + want);
            }
        }
    }

    static void due(String call, boolean got, boolean want) {
        due(call, got ? 1L : 0L, want ? 1L : 0L);
    }

    /** A call that must be refused: its answer, and what refused() tells behind it. */
    static void refused(GraphEngine x, String call, long got, long want, int why) {
        due(call, got, want);
        due(call + ", then refused()", x.refused(), why);
    }

    /** A call that makes something and must be refused. */
    static void refused(GraphEngine x, String call, long got, int why) {
        refused(x, call, got, why, why);
    }

    /** A call that asks and must be refused. */
    static void denied(GraphEngine x, String call, long got, int why) {
        refused(x, call, got, 0, why);
    }

    /** A call that must not be refused. */
    static void fine(GraphEngine x, String call, long got, long want) {
        refused(x, call, got, want, 0);
    }

    static void end() {
        System.out.println(wrong == 0 ? looked + " answers are as due" : wrong + " of " + looked + " answers are not as due");
        if (wrong != 0) {
            System.exit(1);
        }
    }
}
