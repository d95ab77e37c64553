/** Makes things of rows of numbers. */
final class Make {
    private Make() {
    }

    /** A graph with arcs {from, to, weight, cost}; weight 1 and cost 0 where they are left out. */
    static int graph(GraphEngine x, int n, boolean directed, int[]... arcs) {
        draft(x, n, directed, arcs);
        int handle = x.graph();
        Check.due("graph() is not refused", x.refused(), 0);
        return handle;
    }

    static void draft(GraphEngine x, int n, boolean directed, int[]... arcs) {
        Check.due("begin(" + n + ", " + directed + ")", x.begin(n, directed), true);
        for (int i = 0; i < arcs.length; i++) {
            int[] a = arcs[i];
            int weight = a.length > 2 ? a[2] : 1;
            int cost = a.length > 3 ? a[3] : 0;
            Check.due("arc " + i, x.arc(a[0], a[1], weight, cost), i);
        }
    }

    /** All nodes in one ring, 0 to 1 to .. and back to 0. */
    static int ring(GraphEngine x, int n, boolean directed) {
        int[][] arcs = new int[n][];
        for (int v = 0; v < n; v++) {
            arcs[v] = a(v, (v + 1) % n);
        }
        return graph(x, n, directed, arcs);
    }

    /** Each two nodes joined, the lesser to the greater; 11 nodes at most fit. */
    static int allJoined(GraphEngine x, int n) {
        int[][] arcs = new int[n * (n - 1) / 2][];
        int i = 0;
        for (int v = 0; v < n; v++) {
            for (int u = 0; u < v; u++) {
                arcs[i] = a(u, v);
                i++;
            }
        }
        return graph(x, n, false, arcs);
    }

    /** The same arc so many times. */
    static int[][] times(int many, int... arc) {
        int[][] arcs = new int[many][];
        for (int i = 0; i < many; i++) {
            arcs[i] = arc;
        }
        return arcs;
    }

    /** Fills what is left of the 120 handles with columns. */
    static void fillHandles(GraphEngine x) {
        for (int k = x.handles(); k < 120; k++) {
            Check.due("flat() with handle " + k, x.flat(1, k, -1, 0), k);
        }
        Check.due("handles() when all are taken", x.handles(), 120);
    }

    static int[] a(int... numbers) {
        return numbers;
    }
}
