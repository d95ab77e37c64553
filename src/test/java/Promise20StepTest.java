/** Promise 20, step: arc k, from 0, of THE way to a node; -1 where it has none. */
public final class Promise20StepTest {
    public static void main(String[] args) {
        steps();
        noneThere();
        wayOfNoArc();
        noWay();
        endless();
        noSuchNode();
        handlesFirst();
        Check.end();
    }

    private static int[] a(int... numbers) {
        return numbers;
    }

    /** From 0 over 2 to 1 by arcs 2 and 0; 3 stands apart, 4 is endless where weights count. */
    private static int ways(GraphEngine x, int kind) {
        int g = Make.graph(x, 5, true, a(2, 1, 4), a(4, 4, -1), a(0, 2, 3), a(0, 4, 3));
        return x.ways(g, kind, 0);
    }

    private static void steps() {
        Check.test("Promise 20: arc k, from 0");
        GraphEngine x = new GraphEngine();
        for (int kind = 0; kind <= 2; kind++) {
            int w = ways(x, kind);
            Check.fine(x, "kind " + kind + ", step 0", x.step(w, 1, 0), 2);
            Check.fine(x, "kind " + kind + ", step 1", x.step(w, 1, 1), 0);
        }
    }

    private static void noneThere() {
        Check.test("Promise 20: -1 where the way has no arc k");
        GraphEngine x = new GraphEngine();
        for (int kind = 0; kind <= 2; kind++) {
            int w = ways(x, kind);
            for (int k : new int[] {-1, 2, 3, 15, 16, Integer.MIN_VALUE, Integer.MAX_VALUE}) {
                Check.fine(x, "kind " + kind + ", step " + k, x.step(w, 1, k), -1);
            }
        }
    }

    private static void wayOfNoArc() {
        Check.test("Promise 20: -1, a way of no arc");
        GraphEngine x = new GraphEngine();
        for (int kind = 0; kind <= 2; kind++) {
            int w = ways(x, kind);
            Check.fine(x, "kind " + kind + ", step 0", x.step(w, 0, 0), -1);
            Check.fine(x, "kind " + kind + ", step -1", x.step(w, 0, -1), -1);
        }
    }

    private static void noWay() {
        Check.test("Promise 20: -1, no way at all");
        GraphEngine x = new GraphEngine();
        for (int kind = 0; kind <= 2; kind++) {
            int w = ways(x, kind);
            Check.fine(x, "kind " + kind + ", step 0", x.step(w, 3, 0), -1);
            Check.fine(x, "kind " + kind + ", step -1", x.step(w, 3, -1), -1);
        }
    }

    private static void endless() {
        Check.test("Promise 20: -1, an ENDLESS node");
        GraphEngine x = new GraphEngine();
        int w = ways(x, 0);
        Check.fine(x, "step 0", x.step(w, 4, 0), -1);
        Check.fine(x, "step -1", x.step(w, 4, -1), -1);
        Check.fine(x, "short is not", x.step(ways(x, 1), 4, 0), 3);
    }

    private static void noSuchNode() {
        Check.test("Promise 20: -3, no such node: 0");
        GraphEngine x = new GraphEngine();
        int w = ways(x, 0);
        for (int node : new int[] {-1, 5, 6, 16, Integer.MIN_VALUE, Integer.MAX_VALUE}) {
            Check.denied(x, "node " + node, x.step(w, node, 0), -3);
            Check.denied(x, "node " + node + ", step -1", x.step(w, node, -1), -3);
        }
    }

    private static void handlesFirst() {
        Check.test("Promise 20: -1, then -2, then -3");
        GraphEngine x = new GraphEngine();
        int g = Make.graph(x, 2, true);
        int c = x.column(g, 0, 0);
        int p = x.parts(g, 0, 0);
        for (int none : new int[] {-1, 3, 120, Integer.MIN_VALUE, Integer.MAX_VALUE}) {
            Check.denied(x, "no handle " + none, x.step(none, 0, 0), -1);
            Check.denied(x, "no handle, no node " + none, x.step(none, 2, 0), -1);
        }
        for (int other : new int[] {g, c, p}) {
            Check.denied(x, "of another sort " + other, x.step(other, 0, 0), -2);
            Check.denied(x, "of another sort, no node " + other, x.step(other, 2, 0), -2);
        }
    }
}
