/** Promise 8, flat: a column with the same number for each of n (1 .. 16) nodes, but another one for one (node -1: none). */
public final class Promise08FlatTest {
    public static void main(String[] args) {
        sameForEach();
        anotherForOne();
        bounds();
        nodeBounds();
        anyLong();
        noRoom();
        Check.end();
    }

    private static void sameForEach() {
        Check.test("Promise 8: node -1: none has another number");
        GraphEngine x = new GraphEngine();
        Expect.column(x, "three", x.flat(3, 7, -1, 9), 7, 7, 7);
        Expect.column(x, "one", x.flat(1, 7, -1, 9), 7);
    }

    private static void anotherForOne() {
        Check.test("Promise 8: another number for one node");
        GraphEngine x = new GraphEngine();
        Expect.column(x, "the first", x.flat(3, 7, 0, 9), 9, 7, 7);
        Expect.column(x, "the last", x.flat(3, 7, 2, 9), 7, 7, 9);
        Expect.column(x, "the only one", x.flat(1, 7, 0, 9), 9);
        Expect.column(x, "the same number", x.flat(2, 7, 1, 7), 7, 7);
    }

    private static void bounds() {
        Check.test("Promise 8: n is 1 .. 16");
        GraphEngine x = new GraphEngine();
        for (int n : new int[] {0, -1, 17, Integer.MIN_VALUE, Integer.MAX_VALUE}) {
            Check.refused(x, "n " + n, x.flat(n, 1, -1, 2), -3);
            Check.refused(x, "n " + n + ", node 0", x.flat(n, 1, 0, 2), -3);
        }
        for (int n = 1; n <= 16; n++) {
            int c = x.flat(n, 1, -1, 2);
            Check.fine(x, "the sum of " + n, x.at(c, -1), n);
            Check.fine(x, "the last of " + n, x.at(c, n - 1), 1);
            Check.denied(x, "behind the last of " + n, x.at(c, n), -3);
        }
        Check.fine(x, "what was refused made nothing", x.handles(), 16);
    }

    private static void nodeBounds() {
        Check.test("Promise 8: node is -1 .. n - 1");
        GraphEngine x = new GraphEngine();
        for (int node : new int[] {-2, 3, 4, 16, Integer.MIN_VALUE, Integer.MAX_VALUE}) {
            Check.refused(x, "node " + node + " of 3", x.flat(3, 1, node, 2), -3);
        }
        Check.refused(x, "node 1 of 1", x.flat(1, 1, 1, 2), -3);
        Check.refused(x, "node 16 of 16", x.flat(16, 1, 16, 2), -3);
        Check.fine(x, "the sum with node 15 of 16", x.at(x.flat(16, 1, 15, 2), -1), 17);
    }

    private static void anyLong() {
        Check.test("Promise 8: any long will do");
        GraphEngine x = new GraphEngine();
        Expect.column(x, "the ends", x.flat(2, Long.MAX_VALUE, 0, Long.MIN_VALUE), Long.MIN_VALUE, Long.MAX_VALUE);
        Expect.column(x, "above all ints", x.flat(2, 1L << 40, 1, -(1L << 40) - 1), 1L << 40, -(1L << 40) - 1);
    }

    private static void noRoom() {
        Check.test("Promise 8: -4 where all handles are taken; -3 before it");
        GraphEngine x = new GraphEngine();
        Make.fillHandles(x);
        Check.refused(x, "flat(1, 0, -1, 0)", x.flat(1, 0, -1, 0), -4);
        Check.refused(x, "no nodes", x.flat(0, 0, -1, 0), -3);
        Check.refused(x, "no node", x.flat(1, 0, 1, 0), -3);
        x.drop();
        Check.fine(x, "behind drop()", x.flat(1, 0, -1, 0), 119);
    }
}
