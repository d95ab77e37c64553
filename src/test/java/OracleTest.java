import java.util.Arrays;
import java.util.Random;

/** Small graphs, made by a fixed rule, against the oracle. */
public final class OracleTest {
    private static final Random RANDOM = new Random(20261115L);
    /** One object for several graphs, one after the other: what it kept of one must not tell on the next. */
    private static GraphEngine shared = new GraphEngine();

    public static void main(String[] args) {
        int rounds = args.length > 0 ? Integer.parseInt(args[0]) : 1200;
        for (int round = 0; round < rounds; round++) {
            Oracle o = someGraph(round);
            if (round % 7 == 0) shared = new GraphEngine();
            checkGraph(o);
            checkSameness(o);
        }
        Check.end();
    }

    private static int below(int n) {
        return RANDOM.nextInt(n);
    }

    private static Oracle someGraph(int round) {
        int n = 1 + below(6);
        int m = below(9);
        boolean directed = below(2) == 0;
        int style = round % 4;
        int[][] arcs = new int[m][];
        for (int i = 0; i < m; i++) {
            int from = below(n);
            int to = below(n);
            if (style == 1 && from > to) {
                int kept = from;
                from = to;
                to = kept;
            }
            if ((style == 1 || style == 2) && from == to) to = (to + 1) % n;
            int weight = style == 3 ? 990 + below(11) : style == 2 ? below(3) : below(6) - 2;
            arcs[i] = new int[] {from, to, weight, below(5) - 1};
        }
        return new Oracle(n, directed, arcs);
    }

    private static int load(GraphEngine x, Oracle o) {
        return Make.graph(x, o.n, o.directed, o.arcs);
    }

    private static void checkGraph(Oracle o) {
        GraphEngine x = new GraphEngine();
        int g = load(x, o);
        String name = Arrays.deepToString(o.arcs) + " n " + o.n + " " + o.directed + " ";
        checkArcs(x, name + "itself", g, o);
        checkViews(x, name, g, o);
        x = new GraphEngine();
        g = load(x, o);
        checkColumns(x, name, g, o);
        x = new GraphEngine();
        g = load(x, o);
        checkWays(x, name, g, o);
        checkParts(x, name, g, o);
    }

    private static void checkArcs(GraphEngine x, String name, int g, Oracle o) {
        Check.due(name + " nodes", x.of(g, 0, 0), o.n);
        Check.due(name + " arcs", x.of(g, 1, 0), o.arcs.length);
        Check.due(name + " directed", x.of(g, 2, 0), o.directed ? 1 : 0);
        for (int i = 0; i < o.arcs.length; i++) {
            for (int k = 0; k < 4; k++) Check.due(name + " arc " + i, x.of(g, 3 + k, i), o.arcs[i][k]);
        }
    }

    private static void checkViews(GraphEngine x, String name, int g, Oracle o) {
        Check.test("Promise 5, 6: views and joins against the oracle");
        for (int kind = 0; kind <= 7; kind++) {
            int number = kind == 4 ? 1 + below((1 << o.n) - 1) : kind == 5 ? below(5) - 1 : 0;
            int v = x.view(g, kind, number);
            if (kind == 7 && o.arcs.length == 0) {
                Check.due(name + "lines of no arcs", v, -3);
                continue;
            }
            Oracle want = o.view(kind, number);
            if (want == null) Check.due(name + "view " + kind, v, -4);
            else checkArcs(x, name + "view " + kind + ", " + number, v, want);
        }
        Oracle other = new Oracle(2, o.directed, new int[][] {{0, 1, 7, 8}, {1, 1, -7, -8}});
        int h = load(x, other);
        checkArcs(x, name + "joined", x.join(g, h, false), o.joined(other));
        for (int kind = 0; kind <= 3; kind++) {
            int p = x.parts(g, kind, 0);
            checkArcs(x, name + "melted", x.join(g, p, true), o.melted(o.parts(kind, null)));
        }
    }

    private static void checkColumns(GraphEngine x, String name, int g, Oracle o) {
        Check.test("Promise 7, 10, 18: columns and programs against the oracle");
        for (int kind = 0; kind <= 6; kind++) {
            int number = below(5);
            checkNumbers(x, name + "column " + kind, x.column(g, kind, number), o.column(kind, number));
        }
        int c = x.column(g, 2, 0);
        int message = below(5);
        int join = below(4);
        boolean own = below(2) == 0;
        int rounds = below(12);
        long[] want = o.program(o.column(2, 0), message, join, own, rounds);
        String call = name + "run " + message + " " + join + " " + own + " " + rounds;
        checkNumbers(x, call, x.run(g, c, message, join, own, rounds), want);
    }

    private static void checkNumbers(GraphEngine x, String name, int c, long[] want) {
        long sum = 0;
        for (int v = 0; v < want.length; v++) {
            Check.due(name + " at " + v, x.at(c, v), want[v]);
            sum += want[v];
        }
        Check.due(name + " sum", x.at(c, -1), sum);
    }

    private static void checkWays(GraphEngine x, String name, int g, Oracle o) {
        Check.test("Promise 11, 19, 20: ways against the oracle");
        for (int kind = 0; kind <= 2; kind++) {
            int s = below(o.n);
            int w = x.ways(g, kind, s);
            long[][] want = o.ways(kind, s);
            for (int v = 0; v < o.n; v++) {
                String call = name + "ways " + kind + " from " + s + " to " + v;
                for (int what = 0; what < 4; what++) Check.due(call + " what " + what, x.way(w, v, what), want[v][what]);
                for (int k = 4; k < want[v].length; k++) Check.due(call + " step " + k, x.step(w, v, k - 4), want[v][k]);
                Check.due(call + " behind the end", x.step(w, v, want[v].length - 4), -1);
            }
        }
    }

    private static void checkParts(GraphEngine x, String name, int g, Oracle o) {
        Check.test("Promise 12, 21, 22: parts against the oracle");
        int c = x.column(g, 0, 0);
        for (int kind = 0; kind <= 4; kind++) {
            int p = x.parts(g, kind, c);
            int[] want = o.parts(kind, o.column(0, 0));
            int most = 0;
            for (int v = 0; v < o.n; v++) {
                Check.due(name + "parts " + kind + " of " + v, x.part(p, v), want[v]);
                most = Math.max(most, want[v] + 1);
            }
            Check.due(name + "parts " + kind + " in all", x.part(p, -1), most);
            for (int k = 0; k <= most; k++) {
                int set = 0;
                for (int v = 0; v < o.n; v++) if (want[v] == k) set |= 1 << v;
                Check.due(name + "members " + kind + " of " + k, x.members(p, k), set);
            }
        }
    }

    private static void checkAsked(GraphEngine x, String name, int g, Oracle o) {
        Check.test("Promise 23: 0 to 15 against the oracle");
        for (int what = 0; what <= 10; what++) {
            int a = below(o.n);
            Check.due(name + "ask " + what + ", " + a, x.ask(g, what, a, 0), o.ask(what, a, 0));
        }
        for (int i = 0; i < o.arcs.length; i++) Check.due(name + "ask 11, " + i, x.ask(g, 11, i, 0), o.ask(11, i, 0));
        if (o.n < 2) return;
        int a = below(o.n);
        int b = (a + 1 + below(o.n - 1)) % o.n;
        boolean small = o.arcs.length <= 7;
        for (int[] arc : o.arcs) small = small && arc[2] <= 3;
        for (int what = 12; what <= 15; what++) {
            if (what == 14 && !small) continue;
            Check.due(name + "ask " + what + ", " + a + ", " + b, x.ask(g, what, a, b), o.ask(what, a, b));
        }
    }

    /** Against a copy with other numbers, perhaps with something changed. */
    private static void checkSameness(Oracle o) {
        int[] row = Permutations.of(o.n).get(below(Permutations.of(o.n).size()));
        int[][] arcs = new int[o.arcs.length][];
        int shift = arcs.length == 0 ? 0 : below(arcs.length);
        for (int i = 0; i < arcs.length; i++) {
            int[] a = o.arcs[(i + shift) % arcs.length];
            boolean turned = !o.directed && below(2) == 0;
            arcs[i] = new int[] {row[a[turned ? 1 : 0]], row[a[turned ? 0 : 1]], a[2], a[3]};
        }
        if (arcs.length > 0 && below(3) == 0) {
            int[] changed = arcs[below(arcs.length)];
            int what = below(4);
            changed[what] = what < 2 ? below(o.n) : below(3);
        }
        Oracle other = new Oracle(o.n, o.directed, arcs);
        int[] want = o.numbering(other);
        GraphEngine x = shared;
        int g = load(x, o);
        checkAsked(x, Arrays.deepToString(o.arcs) + " n " + o.n + " " + o.directed + " ", g, o);
        int h = load(x, other);
        Check.test("Promise 23: 16, 17 against the oracle");
        String name = Arrays.deepToString(o.arcs) + " as " + Arrays.deepToString(arcs);
        Check.due(name, x.ask(g, 16, 0, h), want == null ? 0 : 1);
        for (int v = 0; v < o.n; v++) Check.due(name + " of " + v, x.ask(g, 17, v, h), want == null ? -1 : want[v]);
        Check.due("drop()", x.drop(), h);
        Check.due("drop()", x.drop(), g);
    }
}
