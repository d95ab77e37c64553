/** Promise 17, of: of a graph: nodes, arcs, whether it is directed; of arc k: from, to, weight, cost. */
public final class Promise17OfTest {
    public static void main(String[] args) {
        ofGraphs();
        kDoesNotCount();
        ofArcs();
        noSuchArc();
        noArcs();
        noSuchWhat();
        handlesFirst();
        Check.end();
    }

    private static void ofGraphs() {
        Check.test("Promise 17: 0 nodes, 1 arcs, 2 whether it is directed (1)");
        GraphEngine x = new GraphEngine();
        int least = x.graph();
        int greatest = Make.graph(x, 16, true, Make.times(60, 1, 2));
        int[][] want = {{1, 0, 0}, {16, 60, 1}};
        for (int what = 0; what <= 2; what++) {
            Check.fine(x, "the least, " + what, x.of(least, what, 0), want[0][what]);
            Check.fine(x, "the greatest, " + what, x.of(greatest, what, 0), want[1][what]);
        }
    }

    private static void kDoesNotCount() {
        Check.test("Promise 17: k does not count for 0 to 2");
        GraphEngine x = new GraphEngine();
        int g = Make.graph(x, 3, true, Make.a(2, 1));
        int[] want = {3, 1, 1};
        for (int what = 0; what <= 2; what++) {
            for (int k : new int[] {-1, 1, 60, Integer.MIN_VALUE, Integer.MAX_VALUE}) {
                Check.fine(x, "what " + what + ", k " + k, x.of(g, what, k), want[what]);
            }
        }
    }

    private static void ofArcs() {
        Check.test("Promise 17: 3 from, 4 to, 5 weight, 6 cost");
        GraphEngine x = new GraphEngine();
        int g = Make.graph(x, 3, false, Make.a(2, 1, -4, 9), Make.a(0, 0, 1000, -1000));
        int[][] want = {{2, 1, -4, 9}, {0, 0, 1000, -1000}};
        for (int k = 0; k < 2; k++) {
            for (int what = 3; what <= 6; what++) {
                Check.fine(x, "arc " + k + ", what " + what, x.of(g, what, k), want[k][what - 3]);
            }
        }
    }

    private static void noSuchArc() {
        Check.test("Promise 17: -3, no such arc");
        GraphEngine x = new GraphEngine();
        int g = Make.graph(x, 3, false, Make.a(2, 1, -4, 9), Make.a(2, 2, 3, 3));
        int full = Make.graph(x, 3, false, Make.times(60, 1, 2, 3, 4));
        for (int what = 3; what <= 6; what++) {
            for (int k : new int[] {-1, 2, 3, 60, Integer.MIN_VALUE, Integer.MAX_VALUE}) {
                Check.denied(x, "what " + what + ", arc " + k, x.of(g, what, k), -3);
            }
            Check.fine(x, "what " + what + ", arc 59 of 60", x.of(full, what, 59), what - 2);
            Check.denied(x, "what " + what + ", arc 60 of 60", x.of(full, what, 60), -3);
        }
    }

    private static void noArcs() {
        Check.test("Promise 17: -3, arc 0 of a graph without arcs");
        GraphEngine x = new GraphEngine();
        int g = x.graph();
        for (int what = 3; what <= 6; what++) {
            Check.denied(x, "what " + what, x.of(g, what, 0), -3);
        }
    }

    private static void noSuchWhat() {
        Check.test("Promise 17: -3, no such what");
        GraphEngine x = new GraphEngine();
        int g = Make.graph(x, 3, false, Make.a(2, 1, -4, 9));
        for (int what : new int[] {-1, 7, 8, Integer.MIN_VALUE, Integer.MAX_VALUE}) {
            Check.denied(x, "what " + what, x.of(g, what, 0), -3);
        }
    }

    private static void handlesFirst() {
        Check.test("Promise 17: -1, then -2, then -3");
        GraphEngine x = new GraphEngine();
        int g = Make.graph(x, 2, true);
        int c = x.column(g, 0, 0);
        int w = x.ways(g, 0, 0);
        int p = x.parts(g, 0, 0);
        for (int none : new int[] {-1, 4, 120, Integer.MIN_VALUE, Integer.MAX_VALUE}) {
            Check.denied(x, "no handle " + none, x.of(none, 0, 0), -1);
            Check.denied(x, "no handle, no what " + none, x.of(none, 7, 0), -1);
            Check.denied(x, "no handle, no arc " + none, x.of(none, 3, 0), -1);
        }
        for (int other : new int[] {c, w, p}) {
            Check.denied(x, "of another sort " + other, x.of(other, 0, 0), -2);
            Check.denied(x, "of another sort, no what " + other, x.of(other, 7, 0), -2);
            Check.denied(x, "of another sort, no arc " + other, x.of(other, 3, 0), -2);
        }
    }
}
