/** Looks at a whole thing: each number that can be asked of it. */
final class Expect {
    private Expect() {
    }

    /** A graph with just these arcs {from, to, weight, cost}; weight 1 and cost 0 where they are left out. */
    static void graph(GraphEngine x, String name, int g, int n, boolean directed, int[]... want) {
        Check.due(name + " is made", g >= 0, true);
        Check.fine(x, name + ": sort", x.sort(g), 1);
        Check.fine(x, name + ": nodes", x.of(g, 0, 0), n);
        Check.fine(x, name + ": directed", x.of(g, 2, 0), directed ? 1 : 0);
        Check.fine(x, name + ": arcs", x.of(g, 1, 0), want.length);
        for (int i = 0; i < want.length; i++) {
            int weight = want[i].length > 2 ? want[i][2] : 1;
            int cost = want[i].length > 3 ? want[i][3] : 0;
            Check.fine(x, name + ": from of arc " + i, x.of(g, 3, i), want[i][0]);
            Check.fine(x, name + ": to of arc " + i, x.of(g, 4, i), want[i][1]);
            Check.fine(x, name + ": weight of arc " + i, x.of(g, 5, i), weight);
            Check.fine(x, name + ": cost of arc " + i, x.of(g, 6, i), cost);
        }
    }

    static void column(GraphEngine x, String name, int c, long... want) {
        Check.due(name + " is made", c >= 0, true);
        Check.fine(x, name + ": sort", x.sort(c), 2);
        long sum = 0;
        for (int v = 0; v < want.length; v++) {
            Check.fine(x, name + " at " + v, x.at(c, v), want[v]);
            sum += want[v];
        }
        Check.fine(x, name + " in all", x.at(c, -1), sum);
        Check.denied(x, name + " behind the last node", x.at(c, want.length), -3);
    }

    /** A way that is there: its worth, how many such ways there are, and its arcs. */
    static void way(GraphEngine x, String name, int w, int node, long worth, long many, int... arcs) {
        String call = name + " to " + node;
        Check.fine(x, call + ": whether", x.way(w, node, 0), 1);
        Check.fine(x, call + ": worth", x.way(w, node, 1), worth);
        Check.fine(x, call + ": arcs", x.way(w, node, 2), arcs.length);
        Check.fine(x, call + ": many", x.way(w, node, 3), many);
        for (int k = 0; k < arcs.length; k++) {
            Check.fine(x, call + ": step " + k, x.step(w, node, k), arcs[k]);
        }
        Check.fine(x, call + ": step behind the last", x.step(w, node, arcs.length), -1);
    }

    static void noWay(GraphEngine x, String name, int w, int node) {
        nothing(x, name, w, node, 0);
    }

    static void endless(GraphEngine x, String name, int w, int node) {
        nothing(x, name, w, node, 2);
    }

    private static void nothing(GraphEngine x, String name, int w, int node, int whether) {
        String call = name + " to " + node;
        Check.fine(x, call + ": whether", x.way(w, node, 0), whether);
        Check.fine(x, call + ": worth", x.way(w, node, 1), 0);
        Check.fine(x, call + ": arcs", x.way(w, node, 2), -1);
        Check.fine(x, call + ": many", x.way(w, node, 3), 0);
        Check.fine(x, call + ": step 0", x.step(w, node, 0), -1);
    }

    /** Parts by the number of each node's part. */
    static void parts(GraphEngine x, String name, int p, int... want) {
        Check.due(name + " is made", p >= 0, true);
        Check.fine(x, name + ": sort", x.sort(p), 4);
        int count = 0;
        for (int v = 0; v < want.length; v++) {
            Check.fine(x, name + ": part of " + v, x.part(p, v), want[v]);
            count = Math.max(count, want[v] + 1);
        }
        Check.fine(x, name + ": how many", x.part(p, -1), count);
        for (int k = 0; k < count; k++) {
            int set = 0;
            for (int v = 0; v < want.length; v++) {
                set |= want[v] == k ? 1 << v : 0;
            }
            Check.fine(x, name + ": members of " + k, x.members(p, k), set);
        }
        Check.fine(x, name + ": members behind the last", x.members(p, count), 0);
        Check.denied(x, name + ": part of a node too many", x.part(p, want.length), -3);
    }

    static void ask(GraphEngine x, String name, int g, int what, int p, int q, long want) {
        Check.fine(x, name + ": ask(" + g + ", " + what + ", " + p + ", " + q + ")", x.ask(g, what, p, q), want);
    }

    /** What does not depend on x and y. */
    static void ask(GraphEngine x, String name, int g, int what, long want) {
        ask(x, name, g, what, 0, 0, want);
    }
}
