import java.lang.management.ManagementFactory;

/** Graphs that are hard to search, with answers that are known; and how much memory the calls take. */
public final class HardTest {
    /** 512 calls share one room of 7.3 million numbers with all else: they shall stay far below it. */
    private static final long MOST_BYTES = 2L * 1000 * 1000;

    public static void main(String[] args) {
        wellKnown();
        alikeButNotSame();
        regular();
        sameWithManyNumberings();
        memory();
        Check.end();
    }

    /** Nodes 0 .. 15 as places of a board of four by four, or as four bits. */
    private static boolean areJoined(int kind, int u, int v) {
        int rows = (u / 4 - v / 4 + 4) % 4;
        int columns = (u % 4 - v % 4 + 4) % 4;
        switch (kind) {
            case 0: return Integer.bitCount(u ^ v) == 1;
            case 1: return Integer.bitCount(u ^ v) == 1 || (u ^ v) == 15;
            case 2: return u != v && (rows == 0 || columns == 0);
            case 3: return (rows == 0 && columns % 2 == 1) || (columns == 0 && rows % 2 == 1)
                    || (rows == columns && rows % 2 == 1);
            default: return (v - u + 16) % 16 == 1 || (v - u + 16) % 16 == 4
                    || (u - v + 16) % 16 == 1 || (u - v + 16) % 16 == 4;
        }
    }

    private static int load(GraphEngine x, int kind, int factor) {
        x.begin(16, false);
        for (int v = 0; v < 16; v++) {
            for (int u = 0; u < v; u++) {
                if (areJoined(kind, u, v)) x.arc(u * factor % 16, v * factor % 16, 3, 2);
            }
        }
        return x.graph();
    }

    /** The cube of four dimensions, Clebsch's graph, the rook's, Shrikhande's, and rings with chords. */
    private static void wellKnown() {
        Check.test("Promise 23: 3 to 8, 12, 15 of graphs that are hard to search");
        GraphEngine x = new GraphEngine();
        int[] arcs = {32, 40, 48, 48, 32};
        int[] clique = {2, 2, 4, 3, 2};
        int[] apart = {8, 5, 4, 4, 6};
        int[] colours = {2, 4, 4, 4, 3};
        int[] width = {6, 8, 9, 9, 7};
        for (int kind = 0; kind < 5; kind++) {
            int g = load(x, kind, 1);
            String name = "kind " + kind;
            Check.due(name + " arcs", x.of(g, 1, 0), arcs[kind]);
            Check.due(name + " clique", Long.bitCount(x.ask(g, 3, 0, 0)), clique[kind]);
            Check.due(name + " apart", Long.bitCount(x.ask(g, 4, 0, 0)), apart[kind]);
            Check.due(name + " colours", x.ask(g, 5, 0, 0), colours[kind]);
            Check.due(name + " width", x.ask(g, 6, 0, 0), width[kind]);
            Check.due(name + " pairs", x.ask(g, 7, 0, 0), 8);
            Check.due(name + " missed", x.ask(g, 8, 0, 0), 0);
            Check.due(name + " apart ways", x.ask(g, 15, 0, 15), arcs[kind] / 8);
            Check.due(name + " flow", x.ask(g, 12, 0, 15), arcs[kind] / 8 * 3);
            Check.due(name + " core", x.at(x.column(g, 3, 0), 7), arcs[kind] / 8);
        }
    }

    /** The rook's graph and Shrikhande's have all numbers of neighbours in common. */
    private static void alikeButNotSame() {
        Check.test("Promise 23: 16, 17 of graphs that are alike, but not the same");
        GraphEngine x = new GraphEngine();
        int rook = load(x, 2, 1);
        int other = load(x, 3, 5);
        Check.due("rook and Shrikhande", x.ask(rook, 16, 0, other), 0);
        Check.due("Shrikhande and rook", x.ask(other, 17, 15, rook), -1);
        Check.due("Shrikhande and itself anew", x.ask(other, 16, 0, load(x, 3, 3)), 1);
        Check.due("rook and itself anew", x.ask(rook, 16, 0, load(x, 2, 11)), 1);
    }

    /** Rings that make up all nodes: the same number of arcs at each, however they are cut. */
    private static void regular() {
        Check.test("Promise 23: 16 of rings that make up all nodes");
        GraphEngine x = new GraphEngine();
        int[][] lengths = {{16}, {8, 8}, {13, 3}, {4, 4, 4, 4}, {3, 3, 3, 7}, {5, 11}, {6, 10}, {3, 3, 5, 5}};
        int[] handle = new int[lengths.length];
        int[] turned = new int[lengths.length];
        for (int i = 0; i < lengths.length; i++) {
            handle[i] = rings(x, lengths[i], 1);
            turned[i] = rings(x, lengths[i], 7);
        }
        for (int i = 0; i < lengths.length; i++) {
            for (int j = 0; j < lengths.length; j++) {
                Check.due("rings " + i + " and " + j, x.ask(handle[i], 16, 0, turned[j]), i == j ? 1 : 0);
            }
        }
    }

    private static int rings(GraphEngine x, int[] lengths, int factor) {
        x.begin(16, true);
        int first = 0;
        for (int length : lengths) {
            for (int i = 0; i < length; i++) {
                x.arc((first + i) * factor % 16, (first + (i + 1) % length) * factor % 16, 1, 1);
            }
            first += length;
        }
        return x.graph();
    }

    private static void sameWithManyNumberings() {
        Check.test("Promise 23: 17 of very many numberings the least");
        GraphEngine x = new GraphEngine();
        x.begin(16, false);
        int empty = x.graph();
        for (int v = 0; v < 16; v++) Check.due("no arcs", x.ask(empty, 17, v, empty), v);
        x.begin(16, false);
        for (int v = 0; v < 16; v += 2) x.arc(v, v + 1, 1, 1);
        int pairs = x.graph();
        x.begin(16, false);
        for (int v = 0; v < 8; v++) x.arc(v + 8, v, 1, 1);
        int halves = x.graph();
        for (int v = 0; v < 16; v++) {
            Check.due("eight pairs", x.ask(pairs, 17, v, halves), v / 2 + v % 2 * 8);
            Check.due("eight pairs, the other way", x.ask(halves, 17, v, pairs), v < 8 ? 2 * v : 2 * (v - 8) + 1);
        }
    }

    private static void memory() {
        Check.test("All calls of one run live in one room");
        java.lang.management.ThreadMXBean bean = ManagementFactory.getThreadMXBean();
        if (!(bean instanceof com.sun.management.ThreadMXBean)) {
            return;
        }
        com.sun.management.ThreadMXBean counter = (com.sun.management.ThreadMXBean) bean;
        for (int what = 0; what < 28; what++) {
            dear(what);
            long before = counter.getCurrentThreadAllocatedBytes();
            dear(what);
            long taken = counter.getCurrentThreadAllocatedBytes() - before;
            Check.due("what " + what + " takes " + taken + " bytes: too many", taken > MOST_BYTES, false);
        }
    }

    /** A full run of the same call on a full graph. */
    private static void dear(int what) {
        GraphEngine x = new GraphEngine();
        x.begin(16, false);
        for (int i = 0; i < 60; i++) x.arc(i % 16, (i * 7 + i / 16 + 1) % 16, i * 13 % 50, i);
        int g = x.graph();
        int c = x.column(g, 0, 0);
        for (int call = 63; call < 511; call++) {
            if (what < 18) {
                x.ask(g, what, 0, what > 15 ? g : 9);
                continue;
            }
            switch (what) {
                case 18: x.graph(); break;
                case 19: x.view(g, 0, 0); break;
                case 20: x.ways(g, 0, call % 16); break;
                case 21: x.ways(g, 2, call % 16); break;
                case 22: x.column(g, 3, 0); break;
                case 23: x.column(g, 5, 30); break;
                case 24: x.run(g, c, 1, 0, true, 20); break;
                case 25: x.parts(g, 2, 0); break;
                case 26: x.parts(g, 0, 0); break;
                default: x.view(g, 6, 0); break;
            }
            x.drop();
            call++;
        }
    }
}
