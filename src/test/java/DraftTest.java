/** Promises 2, 3, 4 and 17: begin, arc, graph, of. */
public final class DraftTest {
    public static void main(String[] args) {
        beginning();
        arcs();
        room();
        graphs();
        details();
        Check.end();
    }

    private static void beginning() {
        GraphEngine x = new GraphEngine();
        for (int n : new int[] {0, 17, -1, 100, Integer.MIN_VALUE, Integer.MAX_VALUE}) {
            Check.due("begin(" + n + ")", x.begin(n, true), false);
            Check.due("refused()", x.refused(), -3);
        }
        for (int n = 1; n <= 16; n++) {
            Check.due("begin(" + n + ")", x.begin(n, n % 2 == 0), true);
            Check.due("refused()", x.refused(), 0);
            int g = x.graph();
            Check.due("nodes", x.of(g, 0, 0), n);
            Check.due("directed", x.of(g, 2, 0), n % 2 == 0 ? 1 : 0);
            Check.due("arcs", x.of(g, 1, 0), 0);
        }
        x.begin(4, true);
        x.arc(3, 2, 1, 1);
        Check.due("begin(17) leaves the draft", x.begin(17, false), false);
        int g = x.graph();
        Check.due("nodes", x.of(g, 0, 0), 4);
        Check.due("arcs", x.of(g, 1, 0), 1);
        Check.due("directed", x.of(g, 2, 0), 1);
        x.begin(4, true);
        Check.due("arcs are gone", x.of(x.graph(), 1, 0), 0);
    }

    private static void arcs() {
        GraphEngine x = new GraphEngine();
        x.begin(3, false);
        Check.refused(x, "from below", x.arc(-1, 0, 0, 0), -3);
        Check.refused(x, "from above", x.arc(3, 0, 0, 0), -3);
        Check.refused(x, "to below", x.arc(0, -1, 0, 0), -3);
        Check.refused(x, "to above", x.arc(0, 3, 0, 0), -3);
        Check.refused(x, "weight below", x.arc(0, 1, -1001, 0), -3);
        Check.refused(x, "weight above", x.arc(0, 1, 1001, 0), -3);
        Check.refused(x, "cost below", x.arc(0, 1, 0, -1001), -3);
        Check.refused(x, "cost above", x.arc(0, 1, 0, 1001), -3);
        Check.refused(x, "far off", x.arc(Integer.MIN_VALUE, Integer.MAX_VALUE, Integer.MIN_VALUE, Integer.MAX_VALUE), -3);
        Check.fine(x, "the first arc", x.arc(0, 1, -1000, 1000), 0);
        Check.fine(x, "the second arc", x.arc(2, 2, 1000, -1000), 1);
        Check.fine(x, "the same again", x.arc(2, 2, 1000, -1000), 2);
    }

    private static void room() {
        GraphEngine x = new GraphEngine();
        x.begin(16, true);
        for (int i = 0; i < 60; i++) {
            Check.fine(x, "arc " + i, x.arc(i % 16, i * 7 % 16, i, -i), i);
        }
        Check.refused(x, "arc 60", x.arc(0, 0, 0, 0), -4);
        Check.refused(x, "-3 before -4", x.arc(16, 0, 0, 0), -3);
        int g = x.graph();
        Check.due("arcs", x.of(g, 1, 0), 60);
        for (int i = 0; i < 60; i++) {
            Check.due("from", x.of(g, 3, i), i % 16);
            Check.due("to", x.of(g, 4, i), i * 7 % 16);
            Check.due("weight", x.of(g, 5, i), i);
            Check.due("cost", x.of(g, 6, i), -i);
        }
        x.begin(2, true);
        Check.fine(x, "room again", x.arc(0, 1, 0, 0), 0);
    }

    /** The draft stays when it becomes a graph; the graph never changes. */
    private static void graphs() {
        GraphEngine x = new GraphEngine();
        x.begin(2, true);
        x.arc(0, 1, 5, 6);
        Check.fine(x, "graph()", x.graph(), 0);
        Check.fine(x, "arc() goes on", x.arc(1, 0, 7, 8), 1);
        Check.fine(x, "graph()", x.graph(), 1);
        x.begin(5, false);
        x.arc(4, 4, 0, 0);
        Check.due("arcs of the first", x.of(0, 1, 0), 1);
        Check.due("arcs of the second", x.of(1, 1, 0), 2);
        Check.due("nodes of the first", x.of(0, 0, 0), 2);
        Check.due("from of the second", x.of(1, 3, 0), 0);
        Check.due("weight of the second", x.of(1, 5, 1), 7);
        Check.due("cost of the second", x.of(1, 6, 1), 8);
    }

    private static void details() {
        GraphEngine x = new GraphEngine();
        int g = Make.graph(x, 3, false, Make.a(2, 1, -4, 9));
        Check.fine(x, "k does not count", x.of(g, 0, -77), 3);
        Check.fine(x, "k does not count", x.of(g, 1, 77), 1);
        Check.fine(x, "k does not count", x.of(g, 2, 77), 0);
        Check.fine(x, "from stays as it was given", x.of(g, 3, 0), 2);
        Check.fine(x, "to", x.of(g, 4, 0), 1);
        Check.fine(x, "weight", x.of(g, 5, 0), -4);
        Check.fine(x, "cost", x.of(g, 6, 0), 9);
        for (int what = 3; what <= 6; what++) {
            Check.denied(x, "arc 1", x.of(g, what, 1), -3);
            Check.denied(x, "arc -1", x.of(g, what, -1), -3);
        }
        Check.denied(x, "what 7", x.of(g, 7, 0), -3);
        Check.denied(x, "what -1", x.of(g, -1, 0), -3);
    }
}
