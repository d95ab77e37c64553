/** Promises 5 and 6: view, join. */
public final class ViewsTest {
    public static void main(String[] args) {
        reversed();
        undirected();
        loops();
        simple();
        partOf();
        heavy();
        squared();
        squaredRoom();
        lines();
        linesRoom();
        wrong();
        joined();
        melted();
        Check.end();
    }

    private static void arcs(GraphEngine x, String name, int g, int n, boolean directed, int[]... want) {
        Check.due(name + " is made", g >= 0, true);
        Check.due(name + " nodes", x.of(g, 0, 0), n);
        Check.due(name + " directed", x.of(g, 2, 0), directed ? 1 : 0);
        Check.due(name + " arcs", x.of(g, 1, 0), want.length);
        for (int i = 0; i < want.length; i++) {
            for (int k = 0; k < 4; k++) {
                Check.due(name + " arc " + i + " what " + (3 + k), x.of(g, 3 + k, i), want[i][k]);
            }
        }
    }

    private static int[] a(int... numbers) {
        return numbers;
    }

    private static void reversed() {
        GraphEngine x = new GraphEngine();
        int g = Make.graph(x, 3, true, a(0, 1, 5, 6), a(2, 2, 7, 8));
        arcs(x, "reversed", x.view(g, 0, 99), 3, true, a(1, 0, 5, 6), a(2, 2, 7, 8));
        int h = Make.graph(x, 3, false, a(0, 1, 5, 6));
        arcs(x, "reversed, not directed", x.view(h, 0, -99), 3, false, a(1, 0, 5, 6));
        arcs(x, "the first stays", g, 3, true, a(0, 1, 5, 6), a(2, 2, 7, 8));
    }

    private static void undirected() {
        GraphEngine x = new GraphEngine();
        int g = Make.graph(x, 3, true, a(2, 1, 5, 6), a(1, 2, 5, 6), a(0, 0, 1, 1));
        arcs(x, "undirected", x.view(g, 1, 0), 3, false, a(2, 1, 5, 6), a(1, 2, 5, 6), a(0, 0, 1, 1));
        int h = Make.graph(x, 2, false, a(1, 0, 5, 6));
        arcs(x, "undirected again", x.view(h, 1, 0), 2, false, a(1, 0, 5, 6));
    }

    private static void loops() {
        GraphEngine x = new GraphEngine();
        int g = Make.graph(x, 3, true, a(0, 0, 1, 1), a(2, 1, 5, 6), a(1, 1, 2, 2), a(2, 1, 5, 6));
        arcs(x, "without loops", x.view(g, 2, 0), 3, true, a(2, 1, 5, 6), a(2, 1, 5, 6));
    }

    private static void simple() {
        GraphEngine x = new GraphEngine();
        int[][] rows = {a(0, 1, 4, 0), a(1, 0, 3, 1), a(2, 2, 0, 0), a(0, 1, 2, 2), a(0, 1, 2, 3), a(1, 2, 9, 4), a(1, 0, 2, 5)};
        int g = Make.graph(x, 3, true, rows);
        arcs(x, "simple", x.view(g, 3, 0), 3, true, a(0, 1, 2, 2), a(1, 2, 9, 4), a(1, 0, 2, 5));
        int h = Make.graph(x, 3, false, rows);
        arcs(x, "simple, not directed", x.view(h, 3, 0), 3, false, a(0, 1, 2, 2), a(1, 2, 9, 4));
    }

    private static void partOf() {
        GraphEngine x = new GraphEngine();
        int g = Make.graph(x, 5, true, a(0, 1, 1, 1), a(4, 2, 2, 2), a(2, 2, 3, 3), a(2, 3, 4, 4), a(1, 4, 5, 5));
        arcs(x, "part", x.view(g, 4, 0b10110), 3, true, a(2, 1, 2, 2), a(1, 1, 3, 3), a(0, 2, 5, 5));
        arcs(x, "part of one node", x.view(g, 4, 0b01000), 1, true);
        arcs(x, "the whole", x.view(g, 4, 0b11111), 5, true,
                a(0, 1, 1, 1), a(4, 2, 2, 2), a(2, 2, 3, 3), a(2, 3, 4, 4), a(1, 4, 5, 5));
        Check.refused(x, "no nodes", x.view(g, 4, 0), -3);
        Check.refused(x, "another bit", x.view(g, 4, 0b100001), -3);
        Check.refused(x, "all bits", x.view(g, 4, -1), -3);
        Check.refused(x, "the highest bit", x.view(g, 4, Integer.MIN_VALUE), -3);
        int h = Make.graph(x, 16, false, a(15, 0, 1, 1));
        arcs(x, "sixteen", x.view(h, 4, 0x8001), 2, false, a(1, 0, 1, 1));
        Check.refused(x, "bit 16", x.view(h, 4, 0x10000), -3);
    }

    private static void heavy() {
        GraphEngine x = new GraphEngine();
        int g = Make.graph(x, 2, true, a(0, 1, -5, 0), a(0, 1, 0, 1), a(1, 0, 7, 2), a(0, 1, 8, 3));
        arcs(x, "heavy", x.view(g, 5, 7), 2, true, a(1, 0, 7, 2), a(0, 1, 8, 3));
        arcs(x, "none", x.view(g, 5, 5000), 2, true);
        Check.due("all", x.of(x.view(g, 5, Integer.MIN_VALUE), 1, 0), 4);
        Check.due("all but one", x.of(x.view(g, 5, -4), 1, 0), 3);
    }

    private static void squared() {
        GraphEngine x = new GraphEngine();
        int g = Make.graph(x, 4, true, a(0, 1, 3, 9), a(0, 1, 2, 9), a(1, 2, 5, 9), a(0, 3, 1, 9), a(3, 2, 4, 9), a(2, 2, -2, 9));
        arcs(x, "squared", x.view(g, 6, 0), 4, true, a(0, 2, 5, 0), a(1, 2, 3, 0), a(2, 2, -4, 0), a(3, 2, 2, 0));
        int h = Make.graph(x, 3, false, a(1, 0, 3, 9), a(1, 2, 5, 9));
        arcs(x, "squared, not directed: there and back by one arc", x.view(h, 6, 0), 3, false,
                a(0, 0, 6, 0), a(0, 2, 8, 0), a(1, 1, 6, 0), a(2, 2, 10, 0));
        int k = Make.graph(x, 3, true, a(0, 1, 1000, 0), a(1, 2, 1, 0), a(2, 0, -1000, 0), a(0, 0, -1000, 0));
        arcs(x, "weights that are too great", x.view(k, 6, 0), 3, true,
                a(0, 0, -1000, 0), a(0, 1, 0, 0), a(0, 2, 1000, 0), a(1, 0, -999, 0), a(2, 0, -1000, 0), a(2, 1, 0, 0));
        int one = Make.graph(x, 1, true);
        arcs(x, "squared of no arcs", x.view(one, 6, 0), 1, true);
    }

    private static void squaredRoom() {
        GraphEngine x = new GraphEngine();
        x.begin(16, true);
        for (int v = 1; v <= 7; v++) x.arc(v, 0, 1, 1);
        for (int v = 8; v <= 15; v++) x.arc(0, v, 1, 1);
        int g = x.graph();
        Check.due("7 times 8 fit", x.of(x.view(g, 6, 0), 1, 0), 56);
        x.arc(1, 1, 1, 1);
        x.arc(2, 2, 1, 1);
        int h = x.graph();
        Check.due("two loops, and from each to 0: just 60", x.of(x.view(h, 6, 0), 1, 0), 60);
        x.arc(3, 3, 1, 1);
        int k = x.graph();
        Check.refused(x, "more than 60", x.view(k, 6, 0), -4);
        Check.due("nothing is made", x.handles(), 5);
        x.begin(2, true);
        x.arc(0, 1, 1, 1);
        int two = x.graph();
        Check.due("a view that failed leaves nothing behind", x.of(x.view(two, 0, 0), 1, 0), 1);
    }

    private static void lines() {
        GraphEngine x = new GraphEngine();
        int g = Make.graph(x, 3, true, a(0, 1, 5, 5), a(1, 2, 6, 6), a(2, 2, 7, 7), a(1, 0, 8, 8));
        arcs(x, "lines", x.view(g, 7, 0), 4, true,
                a(0, 1, 0, 0), a(0, 3, 0, 0), a(1, 2, 0, 0), a(2, 2, 0, 0), a(3, 0, 0, 0));
        int h = Make.graph(x, 4, false, a(0, 1), a(2, 1), a(2, 2), a(3, 0), a(0, 1));
        arcs(x, "lines, not directed", x.view(h, 7, 0), 5, false,
                a(0, 1, 0, 0), a(0, 3, 0, 0), a(0, 4, 0, 0), a(1, 2, 0, 0), a(1, 4, 0, 0), a(3, 4, 0, 0));
    }

    private static void linesRoom() {
        GraphEngine x = new GraphEngine();
        int none = Make.graph(x, 3, true);
        Check.refused(x, "lines of no arcs", x.view(none, 7, 0), -3);
        x.begin(16, true);
        for (int v = 0; v < 16; v++) x.arc(v, (v + 1) % 16, 1, 1);
        int ring = x.graph();
        Check.due("sixteen arcs", x.of(x.view(ring, 7, 0), 0, 0), 16);
        x.arc(0, 0, 1, 1);
        int more = x.graph();
        Check.refused(x, "seventeen arcs", x.view(more, 7, 0), -3);
        x.begin(1, true);
        for (int i = 0; i < 7; i++) x.arc(0, 0, 1, 1);
        Check.due("49 arcs", x.of(x.view(x.graph(), 7, 0), 1, 0), 49);
        x.arc(0, 0, 1, 1);
        Check.refused(x, "64 arcs", x.view(x.graph(), 7, 0), -4);
        x.begin(1, false);
        for (int i = 0; i < 11; i++) x.arc(0, 0, 1, 1);
        Check.due("55 arcs", x.of(x.view(x.graph(), 7, 0), 1, 0), 55);
        x.arc(0, 0, 1, 1);
        Check.refused(x, "66 arcs", x.view(x.graph(), 7, 0), -4);
    }

    private static void wrong() {
        GraphEngine x = new GraphEngine();
        int g = Make.graph(x, 2, true, a(0, 1));
        int c = x.column(g, 0, 0);
        Check.refused(x, "kind 8", x.view(g, 8, 0), -3);
        Check.refused(x, "kind -1", x.view(g, -1, 0), -3);
        Check.refused(x, "no handle", x.view(5, 0, 0), -1);
        Check.refused(x, "a column", x.view(c, 0, 0), -2);
    }

    private static void joined() {
        GraphEngine x = new GraphEngine();
        int g = Make.graph(x, 2, true, a(1, 0, 3, 4));
        int h = Make.graph(x, 3, true, a(0, 2, 5, 6), a(1, 1, 7, 8));
        int u = Make.graph(x, 2, false, a(0, 1, 1, 1));
        arcs(x, "joined", x.join(g, h, false), 5, true, a(1, 0, 3, 4), a(2, 4, 5, 6), a(3, 3, 7, 8));
        arcs(x, "with itself", x.join(g, g, false), 4, true, a(1, 0, 3, 4), a(3, 2, 3, 4));
        arcs(x, "neither directed", x.join(u, u, false), 4, false, a(0, 1, 1, 1), a(2, 3, 1, 1));
        Check.refused(x, "one directed", x.join(g, u, false), -3);
        Check.refused(x, "one directed", x.join(u, g, false), -3);
        Check.refused(x, "no handle", x.join(g, 50, false), -1);
        int big = Make.graph(x, 14, true);
        arcs(x, "sixteen nodes", x.join(g, big, false), 16, true, a(1, 0, 3, 4));
        Check.refused(x, "seventeen nodes", x.join(h, big, false), -4);
        x.begin(2, true);
        for (int i = 0; i < 30; i++) x.arc(0, 1, i, i);
        int many = x.graph();
        Check.due("sixty arcs", x.of(x.join(many, many, false), 1, 0), 60);
        x.arc(0, 1, 0, 0);
        Check.refused(x, "61 arcs", x.join(many, x.graph(), false), -4);
        int other = Make.graph(x, 16, false);
        Check.refused(x, "-3 before -4", x.join(many, other, false), -3);
    }

    private static void melted() {
        GraphEngine x = new GraphEngine();
        int g = Make.graph(x, 4, true, a(0, 2, 1, 1), a(2, 0, 2, 2), a(2, 3, 3, 3), a(1, 2, 4, 4), a(3, 3, 5, 5), a(0, 3, 6, 6));
        int p = x.parts(g, 0, 0);
        arcs(x, "melted", x.join(g, p, true), 3, true, a(0, 2, 3, 3), a(1, 0, 4, 4), a(0, 2, 6, 6));
        int weak = x.parts(g, 1, 0);
        arcs(x, "melted to one", x.join(g, weak, true), 1, true);
        int u = Make.graph(x, 4, false, a(3, 0, 8, 9), a(0, 2, 7, 7));
        arcs(x, "of another graph", x.join(u, p, true), 3, false, a(2, 0, 8, 9));
        int small = Make.graph(x, 3, true);
        Check.refused(x, "not as many nodes", x.join(small, p, true), -3);
        Check.refused(x, "parts that are a graph", x.join(g, g, true), -2);
        Check.refused(x, "a graph that is parts", x.join(p, p, true), -2);
        Check.refused(x, "no handle", x.join(g, 77, true), -1);
        Check.refused(x, "-1 before -2", x.join(p, 77, true), -1);
    }
}
