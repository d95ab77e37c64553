/** Promise 19, way: of ways, to a node: whether there is one, the worth, how many arcs, MANY. */
public final class Promise19WayTest {
    public static void main(String[] args) {
        thereIsOne();
        withoutOne();
        endless();
        noArc();
        noSuchWhat();
        noSuchNode();
        handlesFirst();
        Check.end();
    }

    private static int ways(GraphEngine x, int kind) {
        int g = Make.graph(x, 4, true, Make.a(0, 1, 5), Make.a(1, 2, -7), Make.a(0, 1, 5), Make.a(2, 2, 3));
        return x.ways(g, kind, 0);
    }

    private static void thereIsOne() {
        Check.test("Promise 19: 0 whether there is one (1), 1 the worth, 2 how many arcs, 3 MANY");
        GraphEngine x = new GraphEngine();
        long[][] want = {{1, -2, 2, 2}, {1, 2, 2, 2}, {1, -7, 2, 2}};
        for (int kind = 0; kind <= 2; kind++) {
            int w = ways(x, kind);
            for (int what = 0; what <= 3; what++) {
                Check.fine(x, "kind " + kind + ", what " + what, x.way(w, 2, what), want[kind][what]);
            }
        }
    }

    private static void withoutOne() {
        Check.test("Promise 19: without one: 0, worth 0, arcs -1, MANY 0");
        GraphEngine x = new GraphEngine();
        long[] want = {0, 0, -1, 0};
        for (int kind = 0; kind <= 2; kind++) {
            int w = ways(x, kind);
            for (int what = 0; what <= 3; what++) {
                Check.fine(x, "kind " + kind + ", what " + what, x.way(w, 3, what), want[what]);
            }
        }
    }

    private static void endless() {
        Check.test("Promise 19: 2 if it is ENDLESS, without worth, arcs and MANY then");
        GraphEngine x = new GraphEngine();
        int g = Make.graph(x, 2, true, Make.a(0, 1, 5), Make.a(1, 1, -1));
        int w = x.ways(g, 0, 0);
        long[] want = {2, 0, -1, 0};
        for (int what = 0; what <= 3; what++) {
            Check.fine(x, "what " + what, x.way(w, 1, what), want[what]);
        }
    }

    private static void noArc() {
        Check.test("Promise 19, Terms 4: to the node where ways begin: 0 arcs, one way; WIDE 1001");
        GraphEngine x = new GraphEngine();
        long[] worth = {0, 0, 1001};
        for (int kind = 0; kind <= 2; kind++) {
            int w = ways(x, kind);
            Check.fine(x, "whether", x.way(w, 0, 0), 1);
            Check.fine(x, "worth", x.way(w, 0, 1), worth[kind]);
            Check.fine(x, "arcs", x.way(w, 0, 2), 0);
            Check.fine(x, "many", x.way(w, 0, 3), 1);
        }
    }

    private static void noSuchWhat() {
        Check.test("Promise 19: -3, no such what");
        GraphEngine x = new GraphEngine();
        int w = ways(x, 0);
        for (int what : new int[] {-1, 4, 5, Integer.MIN_VALUE, Integer.MAX_VALUE}) {
            Check.denied(x, "what " + what, x.way(w, 0, what), -3);
        }
    }

    private static void noSuchNode() {
        Check.test("Promise 19: -3, no such node");
        GraphEngine x = new GraphEngine();
        int w = ways(x, 0);
        for (int node : new int[] {-1, 4, 5, 16, Integer.MIN_VALUE, Integer.MAX_VALUE}) {
            for (int what = 0; what <= 3; what++) {
                Check.denied(x, "node " + node + ", what " + what, x.way(w, node, what), -3);
            }
        }
        int big = x.ways(Make.graph(x, 16, false), 2, 15);
        Check.fine(x, "node 15 of 16", x.way(big, 15, 1), 1001);
        Check.denied(x, "node 16 of 16", x.way(big, 16, 1), -3);
    }

    private static void handlesFirst() {
        Check.test("Promise 19: -1, then -2, then -3");
        GraphEngine x = new GraphEngine();
        int g = Make.graph(x, 2, true);
        int c = x.column(g, 0, 0);
        int p = x.parts(g, 0, 0);
        for (int none : new int[] {-1, 3, 120, Integer.MIN_VALUE, Integer.MAX_VALUE}) {
            Check.denied(x, "no handle " + none, x.way(none, 0, 0), -1);
            Check.denied(x, "no handle, no node, no what " + none, x.way(none, 2, 4), -1);
        }
        for (int other : new int[] {g, c, p}) {
            Check.denied(x, "of another sort " + other, x.way(other, 0, 0), -2);
            Check.denied(x, "of another sort, no node, no what " + other, x.way(other, 2, 4), -2);
        }
    }
}
