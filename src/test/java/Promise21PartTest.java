/** Promise 21, part: of parts: node -1: how many; else in which one the node is. */
public final class Promise21PartTest {
    public static void main(String[] args) {
        howMany();
        inWhichOne();
        noSuchNode();
        handlesFirst();
        Check.end();
    }

    private static void howMany() {
        Check.test("Promise 21: node -1: how many");
        GraphEngine x = new GraphEngine();
        Check.fine(x, "one", x.part(x.parts(x.graph(), 0, 0), -1), 1);
        int g = Make.graph(x, 16, true);
        Check.fine(x, "16", x.part(x.parts(g, 0, 0), -1), 16);
        Check.fine(x, "all in one", x.part(x.parts(g, 3, 0), -1), 1);
    }

    private static void inWhichOne() {
        Check.test("Promise 21: in which one the node is");
        GraphEngine x = new GraphEngine();
        int g = Make.graph(x, 16, true, Make.a(15, 1), Make.a(0, 7));
        int p = x.parts(g, 1, 0);
        Check.fine(x, "the first", x.part(p, 0), 0);
        Check.fine(x, "with the first", x.part(p, 7), 0);
        Check.fine(x, "the last, with node 1", x.part(p, 15), 1);
        Check.fine(x, "the last part", x.part(p, 14), 13);
    }

    private static void noSuchNode() {
        Check.test("Promise 21: -3, no such node");
        GraphEngine x = new GraphEngine();
        int p = x.parts(Make.graph(x, 3, true), 0, 0);
        for (int node : new int[] {-2, 3, 4, 16, Integer.MIN_VALUE, Integer.MAX_VALUE}) {
            Check.denied(x, "node " + node, x.part(p, node), -3);
        }
        int big = x.parts(Make.graph(x, 16, true), 1, 0);
        Check.denied(x, "node 16 of 16", x.part(big, 16), -3);
    }

    private static void handlesFirst() {
        Check.test("Promise 21: -1, then -2, then -3");
        GraphEngine x = new GraphEngine();
        int g = Make.graph(x, 2, true);
        int c = x.column(g, 0, 0);
        int w = x.ways(g, 0, 0);
        for (int none : new int[] {-1, 3, 120, Integer.MIN_VALUE, Integer.MAX_VALUE}) {
            Check.denied(x, "no handle " + none, x.part(none, 0), -1);
            Check.denied(x, "no handle, how many " + none, x.part(none, -1), -1);
            Check.denied(x, "no handle, no node " + none, x.part(none, 2), -1);
        }
        for (int other : new int[] {g, c, w}) {
            Check.denied(x, "of another sort " + other, x.part(other, 0), -2);
            Check.denied(x, "of another sort, how many " + other, x.part(other, -1), -2);
            Check.denied(x, "of another sort, no node " + other, x.part(other, 2), -2);
        }
    }
}
