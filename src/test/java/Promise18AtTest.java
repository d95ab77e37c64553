/** Promise 18, at: a column's number for a node; -1 for node: the sum of all. */
public final class Promise18AtTest {
    public static void main(String[] args) {
        numbers();
        sum();
        sumWraps();
        noSuchNode();
        handlesFirst();
        Check.end();
    }

    private static void numbers() {
        Check.test("Promise 18: a column's number for a node");
        GraphEngine x = new GraphEngine();
        int c = x.flat(16, 4, 15, Long.MIN_VALUE);
        Check.fine(x, "the first", x.at(c, 0), 4);
        Check.fine(x, "the last", x.at(c, 15), Long.MIN_VALUE);
    }

    private static void sum() {
        Check.test("Promise 18: -1 for node: the sum of all");
        GraphEngine x = new GraphEngine();
        Check.fine(x, "of one", x.at(x.flat(1, 5, -1, 0), -1), 5);
        Check.fine(x, "of 16", x.at(x.flat(16, 3, 15, 4), -1), 49);
        Check.fine(x, "below 0", x.at(x.flat(3, -3, 0, 4), -1), -2);
    }

    private static void sumWraps() {
        Check.test("Promise 18, Terms: numbers are longs, which wrap: the sum");
        GraphEngine x = new GraphEngine();
        Check.fine(x, "most and most", x.at(x.flat(2, Long.MAX_VALUE, -1, 0), -1), -2);
        Check.fine(x, "most and 1", x.at(x.flat(2, Long.MAX_VALUE, 0, 1), -1), Long.MIN_VALUE);
        Check.fine(x, "least and least", x.at(x.flat(2, Long.MIN_VALUE, -1, 0), -1), 0);
    }

    private static void noSuchNode() {
        Check.test("Promise 18: -3, no such node");
        GraphEngine x = new GraphEngine();
        int c = x.flat(2, 4, 1, 9);
        for (int node : new int[] {-2, 2, 3, 16, Integer.MIN_VALUE, Integer.MAX_VALUE}) {
            Check.denied(x, "node " + node, x.at(c, node), -3);
        }
        Check.denied(x, "node 16 of 16", x.at(x.flat(16, 1, -1, 0), 16), -3);
    }

    private static void handlesFirst() {
        Check.test("Promise 18: -1, then -2, then -3");
        GraphEngine x = new GraphEngine();
        int g = Make.graph(x, 2, true);
        int w = x.ways(g, 0, 0);
        int p = x.parts(g, 0, 0);
        for (int none : new int[] {-1, 3, 120, Integer.MIN_VALUE, Integer.MAX_VALUE}) {
            Check.denied(x, "no handle " + none, x.at(none, 0), -1);
            Check.denied(x, "no handle, the sum " + none, x.at(none, -1), -1);
            Check.denied(x, "no handle, no node " + none, x.at(none, 16), -1);
        }
        for (int other : new int[] {g, w, p}) {
            Check.denied(x, "of another sort " + other, x.at(other, 0), -2);
            Check.denied(x, "of another sort, the sum " + other, x.at(other, -1), -2);
            Check.denied(x, "of another sort, no node " + other, x.at(other, 16), -2);
        }
    }
}
