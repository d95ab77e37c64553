import java.util.Random;

/** Promise 23, ask: 7 PAIRS and 8 MISSED of thin graphs, where rings of odd length lie within one another. */
public final class Promise23AskPairsTest {
    private static final int GRAPHS = 60000;
    private static final int MOST_NODES = 11;
    private static final Random RANDOM = new Random(1711L);
    /** The most pairs within each set of nodes. */
    private static final int[] BEST = new int[1 << MOST_NODES];

    private static final int[] TREE_WITH_CHORDS = {4, 0, 6, 0, 10, 0, 8, 6, 9, 0, 7, 4, 3, 10, 5, 4, 1, 0, 2, 6, 6, 5, 1, 8, 7, 8, 2, 4};
    private static final int[] RINGS_OVER_TEN = {0, 9, 10, 0, 4, 0, 2, 4, 7, 0, 1, 10, 8, 10, 6, 4, 3, 9, 5, 7, 1, 5, 3, 2, 5, 10, 6, 10};
    private static final int[] THICKER = {1, 6, 9, 6, 4, 9, 7, 6, 5, 7, 8, 7, 2, 1, 3, 4, 0, 9, 10, 3, 5, 7, 0, 10, 1, 0, 2, 6, 2, 3, 1, 5};
    private static final int[] EIGHT = {4, 3, 7, 6, 2, 5, 1, 2, 7, 5, 2, 7, 0, 4, 3, 0, 4, 3, 7, 3, 1, 4};
    private static final int[] LONG_RINGS = {0, 7, 2, 0, 8, 2, 5, 7, 4, 2, 6, 5, 3, 6, 10, 0, 1, 5, 9, 2, 6, 8, 4, 0, 8, 1};

    public static void main(String[] args) {
        known();
        thin();
        Check.end();
    }

    private static void known() {
        Check.test("Promise 23: 7 PAIRS, 8 MISSED, rings of odd length within one another");
        known("a tree with chords", 11, TREE_WITH_CHORDS, 5, 0b01010100110);
        known("rings over node 10", 11, RINGS_OVER_TEN, 5, 0b01111000110);
        known("a thicker one", 11, THICKER, 5, 0b11101111101);
        known("eight nodes", 8, EIGHT, 4, 0);
        known("long rings", 11, LONG_RINGS, 5, 0b11000010000);
    }

    private static void known(String name, int n, int[] ends, int pairs, int missed) {
        GraphEngine x = new GraphEngine();
        x.begin(n, false);
        for (int i = 0; i < ends.length; i += 2) x.arc(ends[i], ends[i + 1], 1, 0);
        int g = x.graph();
        Expect.ask(x, name, g, 7, pairs);
        Expect.ask(x, name, g, 8, missed);
    }

    private static void thin() {
        Check.test("Promise 23: 7 PAIRS, 8 MISSED of thin graphs, against the best of every set of nodes");
        for (int round = 0; round < GRAPHS; round++) {
            int n = 6 + RANDOM.nextInt(MOST_NODES - 5);
            int m = n - 2 + RANDOM.nextInt(n / 2 + 3);
            int style = round % 3;
            int[] number = shuffled(n);
            int[] rows = new int[n];
            GraphEngine x = new GraphEngine();
            x.begin(n, round % 2 == 0);
            StringBuilder text = new StringBuilder(n + " nodes:");
            for (int i = 0; i < m; i++) {
                boolean tree = style == 1 && i < n - 1;
                int a = number[tree ? i + 1 : RANDOM.nextInt(n)];
                int b = number[tree ? RANDOM.nextInt(i + 1) : RANDOM.nextInt(style == 2 ? n / 2 : n)];
                x.arc(a, b, 1, 0);
                text.append(' ').append(a).append('-').append(b);
                if (a != b) {
                    rows[a] |= 1 << b;
                    rows[b] |= 1 << a;
                }
            }
            compare(x, text.toString(), rows);
        }
    }

    private static int[] shuffled(int n) {
        int[] row = new int[n];
        for (int v = 0; v < n; v++) {
            int u = RANDOM.nextInt(v + 1);
            row[v] = row[u];
            row[u] = v;
        }
        return row;
    }

    private static void compare(GraphEngine x, String name, int[] rows) {
        int all = (1 << rows.length) - 1;
        for (int set = 1; set <= all; set++) {
            int v = Integer.numberOfTrailingZeros(set);
            int rest = set & (set - 1);
            int best = BEST[rest];
            for (int open = rows[v] & rest; open != 0; open &= open - 1) {
                best = Math.max(best, 1 + BEST[rest & ~(open & -open)]);
            }
            BEST[set] = best;
        }
        int missed = 0;
        for (int v = 0; v < rows.length; v++) {
            missed |= BEST[all & ~(1 << v)] == BEST[all] ? 1 << v : 0;
        }
        int g = x.graph();
        Expect.ask(x, name, g, 7, BEST[all]);
        Expect.ask(x, name, g, 8, missed);
    }
}
