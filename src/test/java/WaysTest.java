/** Promises 11, 19 and 20: ways, way, step. */
public final class WaysTest {
    public static void main(String[] args) {
        least();
        negative();
        endless();
        zeroRings();
        endlessWithoutDirections();
        shortest();
        wide();
        wideFewest();
        lastArcs();
        longest();
        many();
        wrong();
        Check.end();
    }

    private static int[] a(int... numbers) {
        return numbers;
    }

    /** The way to a node: whether, worth, how many ways, and its arcs. */
    private static void to(GraphEngine x, String name, int w, int v, long there, long worth, long many, int... arcs) {
        String call = name + " to " + v;
        Check.fine(x, call, x.way(w, v, 0), there);
        Check.fine(x, call + " worth", x.way(w, v, 1), worth);
        Check.fine(x, call + " arcs", x.way(w, v, 2), there == 1 ? arcs.length : -1);
        Check.fine(x, call + " many", x.way(w, v, 3), many);
        for (int k = 0; k < arcs.length; k++) {
            Check.fine(x, call + " step " + k, x.step(w, v, k), arcs[k]);
        }
        Check.fine(x, call + " behind the end", x.step(w, v, arcs.length), -1);
        Check.fine(x, call + " before the beginning", x.step(w, v, -1), -1);
        Check.fine(x, call + " far off", x.step(w, v, Integer.MAX_VALUE), -1);
        Check.fine(x, call + " far off", x.step(w, v, Integer.MIN_VALUE), -1);
    }

    private static void least() {
        GraphEngine x = new GraphEngine();
        int g = Make.graph(x, 5, true, a(0, 1, 4), a(0, 2, 1), a(2, 1, 3), a(1, 3, 5), a(2, 3, 8), a(0, 1, 4));
        int w = x.ways(g, 0, 0);
        to(x, "least", w, 0, 1, 0, 1);
        to(x, "least: fewest arcs, the least last, both count", w, 1, 1, 4, 2, 0);
        to(x, "least", w, 2, 1, 1, 1, 1);
        to(x, "least: of 9 with two arcs", w, 3, 1, 9, 3, 0, 3);
        to(x, "least: one does not get there", w, 4, 0, 0, 0);
        int back = x.ways(g, 0, 3);
        to(x, "least from the end", back, 3, 1, 0, 1);
        to(x, "least from the end", back, 0, 0, 0, 0);
    }

    private static void negative() {
        GraphEngine x = new GraphEngine();
        int g = Make.graph(x, 4, true, a(0, 1, 1000), a(1, 2, -1000), a(2, 3, -1000), a(0, 3, -900), a(0, 2, 1));
        int w = x.ways(g, 0, 0);
        to(x, "negative weights", w, 2, 1, 0, 1, 0, 1);
        to(x, "negative weights", w, 3, 1, -1000, 1, 0, 1, 2);
        to(x, "negative weights", w, 1, 1, 1000, 1, 0);
    }

    private static void endless() {
        GraphEngine x = new GraphEngine();
        int g = Make.graph(x, 6, true, a(0, 1, 1), a(1, 2, -2), a(2, 1, 1), a(2, 3, 5), a(0, 4, 7), a(5, 5, -1), a(5, 4, 0));
        int w = x.ways(g, 0, 0);
        to(x, "endless", w, 0, 1, 0, 1);
        to(x, "endless", w, 1, 2, 0, 0);
        to(x, "endless", w, 2, 2, 0, 0);
        to(x, "behind what is endless", w, 3, 2, 0, 0);
        to(x, "beside what is endless", w, 4, 1, 7, 1, 4);
        to(x, "what is endless, but not to be got to", w, 5, 0, 0, 0);
        int from = x.ways(g, 0, 5);
        to(x, "the start itself is endless", from, 5, 2, 0, 0);
        to(x, "behind it", from, 4, 2, 0, 0);
        to(x, "not behind it", from, 0, 0, 0, 0);
    }

    /** A ring of weight 0 makes nothing endless. */
    private static void zeroRings() {
        GraphEngine x = new GraphEngine();
        int g = Make.graph(x, 3, true, a(0, 1, -3), a(1, 0, 3), a(1, 2, 0), a(2, 1, 0), a(2, 2, 0));
        int w = x.ways(g, 0, 0);
        to(x, "rings of 0", w, 0, 1, 0, 1);
        to(x, "rings of 0", w, 1, 1, -3, 1, 0);
        to(x, "rings of 0", w, 2, 1, -3, 1, 0, 2);
        int u = Make.graph(x, 3, false, a(0, 1, 0), a(1, 2, 0), a(2, 0, 0));
        int all = x.ways(u, 0, 1);
        to(x, "weights of 0", all, 0, 1, 0, 1, 0);
        to(x, "weights of 0", all, 1, 1, 0, 1);
        to(x, "weights of 0", all, 2, 1, 0, 1, 1);
    }

    private static void endlessWithoutDirections() {
        GraphEngine x = new GraphEngine();
        int g = Make.graph(x, 5, false, a(0, 1, 5), a(1, 2, -1), a(3, 4, 2), a(4, 4, 0));
        int w = x.ways(g, 0, 0);
        to(x, "there and back", w, 0, 2, 0, 0);
        to(x, "there and back", w, 1, 2, 0, 0);
        to(x, "there and back", w, 2, 2, 0, 0);
        to(x, "apart", w, 3, 0, 0, 0);
        int other = x.ways(g, 0, 3);
        to(x, "apart", other, 4, 1, 2, 1, 2);
        to(x, "apart", other, 1, 0, 0, 0);
    }

    private static void shortest() {
        GraphEngine x = new GraphEngine();
        int g = Make.graph(x, 5, true, a(0, 1, -9), a(1, 0, -9), a(2, 3, 0), a(1, 3, 0), a(0, 2, 9), a(0, 2, 1), a(3, 3, 0));
        int w = x.ways(g, 1, 0);
        to(x, "short", w, 0, 1, 0, 1);
        to(x, "short", w, 1, 1, 1, 1, 0);
        to(x, "short", w, 2, 1, 1, 2, 4);
        to(x, "short: last arc 2, not 3", w, 3, 1, 2, 3, 4, 2);
        to(x, "short", w, 4, 0, 0, 0);
        int u = x.view(g, 1, 0);
        int back = x.ways(u, 1, 3);
        to(x, "short, not directed", back, 0, 1, 2, 4, 3, 0);
        to(x, "short, not directed", back, 2, 1, 1, 1, 2);
    }

    private static void wide() {
        GraphEngine x = new GraphEngine();
        int g = Make.graph(x, 5, true, a(0, 1, 3), a(0, 2, 7), a(2, 1, 5), a(1, 3, 9), a(0, 3, -1000), a(3, 0, 1000));
        int w = x.ways(g, 2, 0);
        to(x, "wide: of no arc", w, 0, 1, 1001, 1);
        to(x, "wide", w, 1, 1, 5, 1, 1, 2);
        to(x, "wide", w, 2, 1, 7, 1, 1);
        to(x, "wide", w, 3, 1, 5, 1, 1, 2, 3);
        to(x, "wide", w, 4, 0, 0, 0);
        int h = Make.graph(x, 2, true, a(0, 1, -1000));
        to(x, "wide below 0", x.ways(h, 2, 0), 1, 1, -1000, 1, 0);
    }

    /** The way to a node that is less wide need not follow the widest ways of the nodes before it. */
    private static void wideFewest() {
        GraphEngine x = new GraphEngine();
        int g = Make.graph(x, 5, false, a(0, 1, 9), a(1, 2, 9), a(0, 2, 4), a(2, 3, 4), a(0, 4, 4), a(4, 3, 5));
        int w = x.ways(g, 2, 0);
        to(x, "widest", w, 2, 1, 9, 1, 0, 1);
        to(x, "fewest arcs of the widest", w, 3, 1, 4, 2, 2, 3);
        to(x, "one arc, though wider ways lead on", w, 4, 1, 4, 1, 4);
        int h = Make.graph(x, 4, true, a(0, 1, 2), a(1, 3, 2), a(0, 2, 2), a(2, 3, 9), a(0, 3, 1));
        to(x, "two ways of 2", x.ways(h, 2, 0), 3, 1, 2, 2, 0, 1);
    }

    /** From the end: the last arc decides before the first one does. */
    private static void lastArcs() {
        GraphEngine x = new GraphEngine();
        int[][] rows = {a(2, 4, 1), a(0, 1, 1), a(0, 2, 1), a(1, 3, 1), a(3, 4, 1), a(0, 3, 2), a(1, 4, 1), a(0, 2, 1)};
        int g = Make.graph(x, 5, true, rows);
        for (int kind = 0; kind <= 2; kind++) {
            int w = x.ways(g, kind, 0);
            long worth = kind == 2 ? 1 : 2;
            to(x, "kind " + kind, w, 4, 1, worth, kind == 0 ? 3 : 4, 2, 0);
        }
        int u = Make.graph(x, 4, false, a(3, 2, 1), a(1, 0, 1), a(2, 0, 1), a(3, 1, 1));
        for (int kind = 0; kind <= 2; kind++) {
            to(x, "not directed, kind " + kind, x.ways(u, kind, 0), 3, 1, kind == 2 ? 1 : 2, 2, 2, 0);
        }
    }

    private static void longest() {
        GraphEngine x = new GraphEngine();
        x.begin(16, true);
        for (int v = 15; v > 0; v--) x.arc(v, v - 1, v, 0);
        int g = x.graph();
        int[] arcs = new int[15];
        for (int i = 0; i < 15; i++) arcs[i] = i;
        to(x, "fifteen arcs", x.ways(g, 0, 15), 0, 1, 120, 1, arcs);
        to(x, "fifteen arcs", x.ways(g, 1, 15), 0, 1, 15, 1, arcs);
        to(x, "fifteen arcs", x.ways(g, 2, 15), 0, 1, 1, 1, arcs);
    }

    private static void many() {
        GraphEngine x = new GraphEngine();
        x.begin(16, true);
        for (int i = 0; i < 60; i++) x.arc(i / 4, i / 4 + 1, 5, 0);
        int g = x.graph();
        for (int kind = 0; kind <= 2; kind++) {
            Check.due("four arcs each, kind " + kind, x.way(x.ways(g, kind, 0), 15, 3), 1L << 30);
        }
    }

    private static void wrong() {
        GraphEngine x = new GraphEngine();
        int g = Make.graph(x, 3, true, a(0, 1));
        int w = x.ways(g, 0, 0);
        Check.refused(x, "kind 3", x.ways(g, 3, 0), -3);
        Check.refused(x, "kind -1", x.ways(g, -1, 0), -3);
        Check.refused(x, "from 3", x.ways(g, 0, 3), -3);
        Check.refused(x, "from -1", x.ways(g, 0, -1), -3);
        Check.refused(x, "no handle", x.ways(7, 0, 0), -1);
        Check.refused(x, "ways of ways", x.ways(w, 0, 0), -2);
        Check.denied(x, "node 3", x.way(w, 3, 0), -3);
        Check.denied(x, "node -1", x.way(w, -1, 0), -3);
        Check.denied(x, "what 4", x.way(w, 0, 4), -3);
        Check.denied(x, "what -1", x.way(w, 0, -1), -3);
        Check.denied(x, "no handle", x.way(7, 0, 0), -1);
        Check.denied(x, "a graph", x.way(g, 0, 0), -2);
        Check.denied(x, "node 3", x.step(w, 3, 0), -3);
        Check.denied(x, "node -1", x.step(w, -1, 0), -3);
        Check.denied(x, "no handle", x.step(7, 0, 0), -1);
        Check.denied(x, "a graph", x.step(g, 0, 0), -2);
    }
}
