/** Promises 12, 21 and 22: parts, part, members. */
public final class PartsTest {
    public static void main(String[] args) {
        strong();
        weak();
        bridged();
        sameNeighbours();
        byColumn();
        wrong();
        Check.end();
    }

    private static int[] a(int... numbers) {
        return numbers;
    }

    private static void parts(GraphEngine x, String name, int p, int... want) {
        Check.due(name + " is made", p >= 0, true);
        int count = 0;
        for (int v = 0; v < want.length; v++) {
            Check.fine(x, name + " of " + v, x.part(p, v), want[v]);
            count = Math.max(count, want[v] + 1);
        }
        Check.fine(x, name + " in all", x.part(p, -1), count);
        for (int k = 0; k < count; k++) {
            int set = 0;
            for (int v = 0; v < want.length; v++) set |= want[v] == k ? 1 << v : 0;
            Check.fine(x, name + " members " + k, x.members(p, k), set);
        }
        Check.fine(x, name + " members behind the end", x.members(p, count), 0);
        Check.fine(x, name + " members -1", x.members(p, -1), 0);
        Check.fine(x, name + " members far off", x.members(p, Integer.MAX_VALUE), 0);
    }

    private static void strong() {
        GraphEngine x = new GraphEngine();
        int g = Make.graph(x, 6, true, a(1, 3), a(3, 5), a(5, 1), a(0, 1), a(2, 0), a(0, 2), a(4, 4));
        parts(x, "strong", x.parts(g, 0, -5), 0, 1, 0, 1, 2, 1);
        int u = Make.graph(x, 4, false, a(0, 3), a(1, 1));
        parts(x, "strong, not directed", x.parts(u, 0, 99), 0, 1, 2, 0);
    }

    private static void weak() {
        GraphEngine x = new GraphEngine();
        int g = Make.graph(x, 6, true, a(5, 3), a(1, 3), a(4, 0), a(2, 2));
        parts(x, "weak", x.parts(g, 1, 0), 0, 1, 2, 1, 0, 1);
        int one = Make.graph(x, 1, true);
        parts(x, "weak of one", x.parts(one, 1, 0), 0);
    }

    private static void bridged() {
        GraphEngine x = new GraphEngine();
        int g = Make.graph(x, 8, true, a(0, 1), a(0, 2), a(2, 1), a(2, 3), a(3, 4), a(4, 3), a(4, 5), a(6, 6), a(5, 7), a(5, 7));
        parts(x, "bridged", x.parts(g, 2, 0), 0, 0, 0, 1, 1, 2, 3, 2);
        int tree = Make.graph(x, 4, false, a(0, 1), a(1, 2), a(1, 3));
        parts(x, "bridged of a tree", x.parts(tree, 2, 0), 0, 1, 2, 3);
        int ring = Make.graph(x, 4, false, a(0, 1), a(1, 2), a(2, 3), a(3, 0));
        parts(x, "bridged of a ring", x.parts(ring, 2, 0), 0, 0, 0, 0);
    }

    private static void sameNeighbours() {
        GraphEngine x = new GraphEngine();
        int g = Make.graph(x, 6, true, a(0, 2), a(1, 2), a(1, 2), a(0, 0), a(2, 3), a(2, 4), a(4, 2));
        parts(x, "same neighbours", x.parts(g, 3, 0), 0, 0, 1, 2, 3, 4);
        int u = Make.graph(x, 5, false, a(0, 2), a(2, 1), a(1, 1), a(3, 4));
        parts(x, "same neighbours, not directed", x.parts(u, 3, 0), 0, 0, 1, 2, 3);
        int none = Make.graph(x, 3, true, a(2, 2));
        parts(x, "no neighbours at all", x.parts(none, 3, 0), 0, 0, 0);
    }

    private static void byColumn() {
        GraphEngine x = new GraphEngine();
        int g = Make.graph(x, 4, true, a(0, 1), a(2, 1));
        int c = x.column(g, 0, 0);
        parts(x, "by a column", x.parts(g, 4, c), 0, 1, 0, 1);
        int big = x.flat(4, 1L << 32, 2, 0);
        parts(x, "by great numbers", x.parts(g, 4, big), 0, 0, 1, 0);
        int three = x.flat(3, 0, -1, 0);
        Check.refused(x, "not as many nodes", x.parts(g, 4, three), -3);
        Check.refused(x, "x is a graph", x.parts(g, 4, g), -2);
        Check.refused(x, "x is none", x.parts(g, 4, 99), -1);
        Check.refused(x, "x is none", x.parts(g, 4, -1), -1);
        Check.refused(x, "-1 of x before -2 of the graph", x.parts(c, 4, 99), -1);
        Check.refused(x, "-2 of the graph", x.parts(c, 4, c), -2);
    }

    private static void wrong() {
        GraphEngine x = new GraphEngine();
        int g = Make.graph(x, 3, true, a(0, 1));
        int p = x.parts(g, 1, 0);
        Check.refused(x, "kind 5", x.parts(g, 5, 0), -3);
        Check.refused(x, "kind -1", x.parts(g, -1, 0), -3);
        Check.refused(x, "no handle", x.parts(9, 0, 0), -1);
        Check.refused(x, "parts of parts", x.parts(p, 0, 0), -2);
        Check.denied(x, "node 3", x.part(p, 3), -3);
        Check.denied(x, "node -2", x.part(p, -2), -3);
        Check.denied(x, "no handle", x.part(9, 0), -1);
        Check.denied(x, "a graph", x.part(g, 0), -2);
        Check.denied(x, "no handle", x.members(9, 0), -1);
        Check.denied(x, "a graph", x.members(g, 0), -2);
    }
}
