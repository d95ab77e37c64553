/** Makes graphs of rows of numbers. */
final class Make {
    private Make() {
    }

    /** A graph with arcs {from, to, weight, cost}; weight 1 and cost 0 where they are left out. */
    static int graph(GraphEngine x, int n, boolean directed, int[]... arcs) {
        draft(x, n, directed, arcs);
        int handle = x.graph();
        Check.due("graph() is not refused", x.refused(), 0);
        return handle;
    }

    static void draft(GraphEngine x, int n, boolean directed, int[]... arcs) {
        Check.due("begin(" + n + ", " + directed + ")", x.begin(n, directed), true);
        for (int i = 0; i < arcs.length; i++) {
            int[] a = arcs[i];
            int weight = a.length > 2 ? a[2] : 1;
            int cost = a.length > 3 ? a[3] : 0;
            Check.due("arc " + i, x.arc(a[0], a[1], weight, cost), i);
        }
    }

    static int[] a(int... numbers) {
        return numbers;
    }
}
