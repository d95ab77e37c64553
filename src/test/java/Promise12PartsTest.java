/** Promise 12, parts: PARTS (kind 0 .. 4; x is a column's handle for 4, with as many nodes, else it does not count). */
public final class Promise12PartsTest {
    public static void main(String[] args) {
        kinds();
        xDoesNotCount();
        handlesFirst();
        columnFirst();
        asManyNodes();
        noRoom();
        leastAndGreatest();
        numberedByLeastNodes();
        strong();
        strongOverBranches();
        strongNotDirected();
        weak();
        bridged();
        bridgesAreSingle();
        bridgedLoops();
        sameNeighbours();
        sameNeighboursWithoutLoops();
        joinedNodesDiffer();
        noNeighbours();
        byColumn();
        Check.end();
    }

    private static int[] a(int... numbers) {
        return numbers;
    }

    private static void kinds() {
        Check.test("Promise 12: kinds are 0 .. 4");
        GraphEngine x = new GraphEngine();
        int g = Make.graph(x, 2, true);
        int c = x.flat(2, 0, -1, 0);
        for (int kind : new int[] {-1, 5, 6, Integer.MIN_VALUE, Integer.MAX_VALUE}) {
            Check.refused(x, "kind " + kind, x.parts(g, kind, c), -3);
            Check.refused(x, "kind " + kind + ", x no handle", x.parts(g, kind, 99), -3);
        }
        for (int kind = 0; kind <= 4; kind++) {
            Check.fine(x, "kind " + kind, x.parts(g, kind, c), kind + 2);
        }
    }

    private static void xDoesNotCount() {
        Check.test("Promise 12: x counts for 4 alone");
        GraphEngine x = new GraphEngine();
        int g = Make.graph(x, 2, true, a(0, 1));
        int handle = g + 1;
        for (int kind = 0; kind <= 3; kind++) {
            for (int number : new int[] {-1, 0, 99, Integer.MIN_VALUE, Integer.MAX_VALUE}) {
                Check.fine(x, "kind " + kind + ", x " + number, x.parts(g, kind, number), handle);
                Check.fine(x, "how many", x.part(handle, -1), kind == 1 ? 1 : 2);
                handle++;
            }
        }
    }

    private static void handlesFirst() {
        Check.test("Promise 12: -1, then -2, then -3");
        GraphEngine x = new GraphEngine();
        int g = Make.graph(x, 2, true);
        int c = x.column(g, 0, 0);
        int w = x.ways(g, 0, 0);
        int p = x.parts(g, 0, 0);
        for (int none : new int[] {-1, 4, 120, Integer.MIN_VALUE, Integer.MAX_VALUE}) {
            Check.refused(x, "no handle " + none, x.parts(none, 0, c), -1);
            Check.refused(x, "no handle, no kind " + none, x.parts(none, 5, c), -1);
            Check.refused(x, "no handle, by a column " + none, x.parts(none, 4, c), -1);
        }
        for (int other : new int[] {c, w, p}) {
            Check.refused(x, "of another sort " + other, x.parts(other, 0, c), -2);
            Check.refused(x, "of another sort, no kind " + other, x.parts(other, 5, c), -2);
            Check.refused(x, "of another sort, by a column " + other, x.parts(other, 4, c), -2);
        }
        Check.fine(x, "nothing is made", x.handles(), 4);
    }

    private static void columnFirst() {
        Check.test("Promise 12: kind 4, -1 of any handle, then -2 of any, x is one of them");
        GraphEngine x = new GraphEngine();
        int g = Make.graph(x, 2, true);
        int c = x.flat(3, 0, -1, 0);
        int w = x.ways(g, 0, 0);
        int p = x.parts(g, 0, 0);
        for (int none : new int[] {-1, 4, 120, Integer.MIN_VALUE, Integer.MAX_VALUE}) {
            Check.refused(x, "no column " + none, x.parts(g, 4, none), -1);
            Check.refused(x, "no column, the graph of another sort " + none, x.parts(c, 4, none), -1);
            Check.refused(x, "no graph, the column of another sort " + none, x.parts(none, 4, g), -1);
        }
        for (int other : new int[] {g, w, p}) {
            Check.refused(x, "the column of another sort " + other, x.parts(g, 4, other), -2);
        }
        Check.refused(x, "one for the other", x.parts(c, 4, g), -2);
    }

    private static void asManyNodes() {
        Check.test("Promise 12: kind 4, a column with as many nodes, else -3");
        GraphEngine x = new GraphEngine();
        int g = Make.graph(x, 3, true);
        for (int n : new int[] {1, 2, 4, 16}) {
            Check.refused(x, n + " nodes", x.parts(g, 4, x.flat(n, 0, -1, 0)), -3);
        }
        Expect.parts(x, "3 nodes", x.parts(g, 4, x.flat(3, 0, -1, 0)), 0, 0, 0);
    }

    private static void noRoom() {
        Check.test("Promise 12: -4 where all handles are taken, behind all else");
        GraphEngine x = new GraphEngine();
        int g = x.graph();
        int c = x.flat(1, 0, -1, 0);
        int two = x.flat(2, 0, -1, 0);
        Make.fillHandles(x);
        for (int kind = 0; kind <= 4; kind++) {
            Check.refused(x, "kind " + kind, x.parts(g, kind, c), -4);
        }
        Check.refused(x, "no handle", x.parts(120, 0, 0), -1);
        Check.refused(x, "of another sort", x.parts(c, 0, 0), -2);
        Check.refused(x, "no kind", x.parts(g, 5, 0), -3);
        Check.refused(x, "no column", x.parts(g, 4, 120), -1);
        Check.refused(x, "a column of another sort", x.parts(g, 4, g), -2);
        Check.refused(x, "not as many nodes", x.parts(g, 4, two), -3);
        x.drop();
        Check.fine(x, "behind drop()", x.parts(g, 0, 0), 119);
    }

    private static void leastAndGreatest() {
        Check.test("Promise 12: one node, and 16 nodes");
        GraphEngine x = new GraphEngine();
        int one = x.graph();
        int c = x.flat(1, 7, -1, 0);
        for (int kind = 0; kind <= 4; kind++) {
            Expect.parts(x, "one node, kind " + kind, x.parts(one, kind, c), 0);
        }
        int[] each = new int[16];
        for (int v = 0; v < 16; v++) each[v] = v;
        int loose = Make.graph(x, 16, true);
        Expect.parts(x, "16 alone", x.parts(loose, 0, 0), each);
        int ring = Make.ring(x, 16, true);
        Expect.parts(x, "16 in a ring", x.parts(ring, 0, 0), new int[16]);
    }

    private static void numberedByLeastNodes() {
        Check.test("Promise 12, Terms 5: parts are numbered by their least nodes");
        GraphEngine x = new GraphEngine();
        int g = Make.graph(x, 6, true, a(5, 3), a(1, 3), a(4, 0), a(2, 2));
        Expect.parts(x, "weak", x.parts(g, 1, 0), 0, 1, 2, 1, 0, 1);
        int c = x.flat(6, 100, 0, 500);
        Expect.parts(x, "by a column: the number itself does not count", x.parts(g, 4, c), 0, 1, 1, 1, 1, 1);
    }

    private static void strong() {
        Check.test("Promise 12, Terms 5: STRONG, there and back");
        GraphEngine x = new GraphEngine();
        int g = Make.graph(x, 6, true, a(1, 3), a(3, 5), a(5, 1), a(0, 1), a(2, 0), a(0, 2), a(4, 4));
        Expect.parts(x, "rings", x.parts(g, 0, 0), 0, 1, 0, 1, 2, 1);
        int row = Make.graph(x, 3, true, a(0, 1), a(1, 2), a(0, 2));
        Expect.parts(x, "no way back", x.parts(row, 0, 0), 0, 1, 2);
    }

    private static void strongOverBranches() {
        Check.test("Promise 12, Terms 5: STRONG and WEAK, over whichever of several nodes leads on");
        GraphEngine x = new GraphEngine();
        int g = Make.graph(x, 6, true, a(0, 1), a(0, 2), a(0, 3), a(1, 4), a(4, 0), a(2, 5));
        Expect.parts(x, "strong", x.parts(g, 0, 0), 0, 0, 1, 2, 0, 3);
        Expect.parts(x, "weak", x.parts(g, 1, 0), 0, 0, 0, 0, 0, 0);
        Expect.parts(x, "reversed, strong", x.parts(x.view(g, 0, 0), 0, 0), 0, 0, 1, 2, 0, 3);
    }

    private static void strongNotDirected() {
        Check.test("Promise 12, Terms 2, 5: STRONG, not directed: back by the same arc");
        GraphEngine x = new GraphEngine();
        int u = Make.graph(x, 4, false, a(0, 3), a(1, 1));
        Expect.parts(x, "not directed", x.parts(u, 0, 0), 0, 1, 2, 0);
    }

    private static void weak() {
        Check.test("Promise 12, Terms 5: WEAK, directions do not count");
        GraphEngine x = new GraphEngine();
        int g = Make.graph(x, 5, true, a(1, 0), a(1, 2), a(3, 2), a(4, 4));
        Expect.parts(x, "directed", x.parts(g, 1, 0), 0, 0, 0, 0, 1);
        Expect.parts(x, "not directed", x.parts(x.view(g, 1, 0), 1, 0), 0, 0, 0, 0, 1);
    }

    private static void bridged() {
        Check.test("Promise 12, Terms 5: BRIDGED, what is left without BRIDGES");
        GraphEngine x = new GraphEngine();
        int[][] rows = {a(0, 1), a(0, 2), a(2, 1), a(2, 3), a(3, 4), a(4, 5), a(5, 3)};
        Expect.parts(x, "two rings and a bridge", x.parts(Make.graph(x, 7, false, rows), 2, 0), 0, 0, 0, 1, 1, 1, 2);
        Expect.parts(x, "directions do not count", x.parts(Make.graph(x, 7, true, rows), 2, 0), 0, 0, 0, 1, 1, 1, 2);
        int tree = Make.graph(x, 4, false, a(0, 1), a(1, 2), a(1, 3));
        Expect.parts(x, "nothing but bridges", x.parts(tree, 2, 0), 0, 1, 2, 3);
        int ring = Make.ring(x, 4, false);
        Expect.parts(x, "no bridge", x.parts(ring, 2, 0), 0, 0, 0, 0);
    }

    private static void bridgesAreSingle() {
        Check.test("Promise 12, Terms 5: BRIDGED, two arcs of one pair are no bridges");
        GraphEngine x = new GraphEngine();
        int same = Make.graph(x, 3, true, a(0, 1), a(0, 1), a(1, 2));
        Expect.parts(x, "there twice", x.parts(same, 2, 0), 0, 0, 1);
        int back = Make.graph(x, 3, true, a(0, 1), a(1, 0), a(1, 2));
        Expect.parts(x, "there and back", x.parts(back, 2, 0), 0, 0, 1);
        int one = Make.graph(x, 2, true, a(0, 1));
        Expect.parts(x, "once", x.parts(one, 2, 0), 0, 1);
    }

    private static void bridgedLoops() {
        Check.test("Promise 12, Terms 5: BRIDGED, a loop is no bridge and joins nothing");
        GraphEngine x = new GraphEngine();
        int g = Make.graph(x, 3, false, a(0, 0), a(0, 1), a(1, 1), a(1, 1));
        Expect.parts(x, "loops", x.parts(g, 2, 0), 0, 1, 2);
    }

    private static void sameNeighbours() {
        Check.test("Promise 12, Terms 5: SAME NEIGHBOURS, out and in the same sets");
        GraphEngine x = new GraphEngine();
        int g = Make.graph(x, 6, true, a(0, 2), a(1, 2), a(1, 2), a(2, 3), a(2, 4), a(4, 2), a(2, 5));
        Expect.parts(x, "directed", x.parts(g, 3, 0), 0, 0, 1, 2, 3, 2);
        int u = x.view(g, 1, 0);
        Expect.parts(x, "not directed", x.parts(u, 3, 0), 0, 0, 1, 0, 0, 0);
    }

    private static void sameNeighboursWithoutLoops() {
        Check.test("Promise 12, Terms 5: SAME NEIGHBOURS, loops do not count");
        GraphEngine x = new GraphEngine();
        int g = Make.graph(x, 3, true, a(0, 2), a(1, 2), a(0, 0));
        Expect.parts(x, "directed", x.parts(g, 3, 0), 0, 0, 1);
        int u = Make.graph(x, 3, false, a(0, 2), a(2, 1), a(1, 1));
        Expect.parts(x, "not directed", x.parts(u, 3, 0), 0, 0, 1);
    }

    private static void joinedNodesDiffer() {
        Check.test("Promise 12, Terms 5: SAME NEIGHBOURS, two that are joined have not the same");
        GraphEngine x = new GraphEngine();
        int two = Make.graph(x, 2, false, a(0, 1));
        Expect.parts(x, "two", x.parts(two, 3, 0), 0, 1);
        int three = Make.graph(x, 3, true, a(0, 1), a(1, 0), a(0, 2), a(1, 2), a(0, 0), a(1, 1));
        Expect.parts(x, "two with loops", x.parts(three, 3, 0), 0, 1, 2);
    }

    private static void noNeighbours() {
        Check.test("Promise 12, Terms 5: SAME NEIGHBOURS, all that have none");
        GraphEngine x = new GraphEngine();
        int none = Make.graph(x, 4, true, a(2, 2));
        Expect.parts(x, "none", x.parts(none, 3, 0), 0, 0, 0, 0);
    }

    private static void byColumn() {
        Check.test("Promise 12, Terms 5: by a column, of the same number");
        GraphEngine x = new GraphEngine();
        int g = Make.graph(x, 4, true, a(0, 1), a(2, 1));
        Expect.parts(x, "degrees", x.parts(g, 4, x.column(g, 0, 0)), 0, 1, 0, 1);
        Expect.parts(x, "numbers that are the same as ints", x.parts(g, 4, x.flat(4, 1L << 32, 2, 0)), 0, 0, 1, 0);
        Expect.parts(x, "the ends", x.parts(g, 4, x.flat(4, Long.MIN_VALUE, 0, Long.MAX_VALUE)), 0, 1, 1, 1);
    }
}
