import java.math.BigInteger;
import java.util.Arrays;
import java.util.Random;

/** Graphs of up to 16 nodes, made by a fixed rule, against slow ways of another kind to the same answers. */
public final class BigOracleTest {
    private static final Random RANDOM = new Random(1511L);

    private static GraphEngine shared = new GraphEngine();

    private int n;
    private boolean directed;
    private int[][] arcs;
    private int[] joined;

    public static void main(String[] args) {
        int rounds = args.length > 0 ? Integer.parseInt(args[0]) : 1000;
        for (int round = 0; round < rounds; round++) {
            new BigOracleTest().check(round);
        }
        Check.end();
    }

    private static int below(int n) {
        return RANDOM.nextInt(n);
    }

    private void make(int round) {
        n = round % 25 == 0 ? 16 : 6 + below(7);
        directed = below(3) == 0;
        int m = Math.min(60, n + below(3 * n));
        arcs = new int[m][];
        int style = below(4);
        for (int i = 0; i < m; i++) {
            int from = below(n);
            int to = style == 0 ? below(n) : (from + 1 + below(n - 1)) % n;
            if (style == 2) to = (from + 1 + below(2) * (1 + round % 4)) % n;
            if (style == 3 && i >= 2) from = arcs[below(i)][1];
            int weight = style == 1 ? below(4) : below(1001);
            arcs[i] = new int[] {from, to, weight, below(1100) - 100};
        }
        joined = new int[n];
        for (int[] a : arcs) {
            if (a[0] != a[1]) {
                joined[a[0]] |= 1 << a[1];
                joined[a[1]] |= 1 << a[0];
            }
        }
    }

    private void check(int round) {
        Check.test("Promise 23: 3 to 15 on greater graphs, against slower ways");
        make(round);
        if (round % 3 == 0) shared = new GraphEngine();
        GraphEngine x = shared;
        int g = Make.graph(x, n, directed, arcs);
        String name = n + " " + directed + " " + Arrays.deepToString(arcs) + " ask ";
        int[] free = new int[n];
        for (int v = 0; v < n; v++) free[v] = all() & ~joined[v] & ~(1 << v);
        Check.due(name + 3, x.ask(g, 3, 0, 0), greatest(free));
        Check.due(name + 4, x.ask(g, 4, 0, 0), greatest(joined));
        if (n <= 13) Check.due(name + 5, x.ask(g, 5, 0, 0), colours());
        Check.due(name + 6, x.ask(g, 6, 0, 0), width());
        int[] best = pairs();
        int missed = 0;
        for (int v = 0; v < n; v++) if (best[all() & ~(1 << v)] == best[all()]) missed |= 1 << v;
        Check.due(name + 7, x.ask(g, 7, 0, 0), best[all()]);
        Check.due(name + 8, x.ask(g, 8, 0, 0), missed);
        Check.due(name + 9, x.ask(g, 9, 0, 0), trees());
        int s = below(n);
        int t = (s + 1 + below(n - 1)) % n;
        String ends = ", " + s + ", " + t;
        Check.due(name + 12 + ends, x.ask(g, 12, s, t), cut(s, t, false)[0]);
        Check.due(name + 13 + ends, x.ask(g, 13, s, t), cut(s, t, false)[1]);
        Check.due(name + 14 + ends, x.ask(g, 14, s, t), price(s, t));
        Check.due(name + 15 + ends, x.ask(g, 15, s, t), cut(s, t, true)[0]);
        checkSame(x, g, name);
        GraphEngine other = new GraphEngine();
        checkLeast(other, Make.graph(other, n, directed, arcs), name, s);
    }

    private int all() {
        return (1 << n) - 1;
    }

    private int greatest(int[] rows) {
        int best = 0;
        boolean[] good = new boolean[1 << n];
        good[0] = true;
        for (int set = 1; set <= all(); set++) {
            int v = Integer.numberOfTrailingZeros(set);
            good[set] = good[set & (set - 1)] && (rows[v] & set) == 0;
            if (good[set] && Integer.bitCount(set) > Integer.bitCount(best)) best = set;
        }
        return best;
    }

    private int colours() {
        boolean[] good = new boolean[1 << n];
        int[] most = new int[1 << n];
        good[0] = true;
        for (int set = 1; set <= all(); set++) {
            int v = Integer.numberOfTrailingZeros(set);
            good[set] = good[set & (set - 1)] && (joined[v] & set) == 0;
            most[set] = n;
        }
        for (int set = 1; set <= all(); set++) {
            int low = set & -set;
            int rest = set & ~low;
            for (int one = rest; ; one = (one - 1) & rest) {
                if (good[one | low]) most[set] = Math.min(most[set], most[rest & ~one] + 1);
                if (one == 0) break;
            }
        }
        return most[all()];
    }

    /** The width by sets that have gone: how many are met from a node over those that are gone. */
    private int width() {
        int[] least = new int[1 << n];
        for (int set = 1; set <= all(); set++) {
            least[set] = n;
            for (int v = 0; v < n; v++) {
                if ((set & 1 << v) != 0) {
                    int gone = set & ~(1 << v);
                    least[set] = Math.min(least[set], Math.max(least[gone], met(gone, v)));
                }
            }
        }
        return least[all()];
    }

    private int met(int gone, int v) {
        int seen = 1 << v;
        int edge = seen;
        int near = 0;
        while (edge != 0) {
            int u = Integer.numberOfTrailingZeros(edge);
            edge &= edge - 1;
            near |= joined[u];
            int fresh = joined[u] & gone & ~seen;
            seen |= fresh;
            edge |= fresh;
        }
        return Integer.bitCount(near & ~gone & ~(1 << v));
    }

    private int[] pairs() {
        int[] best = new int[1 << n];
        for (int set = 1; set <= all(); set++) {
            int v = Integer.numberOfTrailingZeros(set);
            best[set] = best[set & (set - 1)];
            for (int u = 0; u < n; u++) {
                if ((set & joined[v] & 1 << u) != 0) {
                    best[set] = Math.max(best[set], 1 + best[set & ~(1 << u) & ~(1 << v)]);
                }
            }
        }
        return best;
    }

    private long trees() {
        BigInteger[][] t = new BigInteger[n][n];
        for (BigInteger[] row : t) Arrays.fill(row, BigInteger.ZERO);
        for (int[] a : arcs) {
            if (a[0] == a[1]) continue;
            t[a[0]][a[0]] = t[a[0]][a[0]].add(BigInteger.ONE);
            t[a[1]][a[1]] = t[a[1]][a[1]].add(BigInteger.ONE);
            t[a[0]][a[1]] = t[a[0]][a[1]].subtract(BigInteger.ONE);
            t[a[1]][a[0]] = t[a[1]][a[0]].subtract(BigInteger.ONE);
        }
        BigInteger last = BigInteger.ONE;
        for (int k = 1; k < n - 1; k++) {
            if (t[k][k].signum() == 0) return 0;
            for (int i = k + 1; i < n; i++) {
                for (int j = k + 1; j < n; j++) {
                    t[i][j] = t[i][j].multiply(t[k][k]).subtract(t[i][k].multiply(t[k][j])).divide(last);
                }
            }
            last = t[k][k];
        }
        return t[n - 1][n - 1].mod(BigInteger.valueOf(1000000007L)).longValue();
    }

    /** {the least that leaves a set with s but not t, what all such sets have in common}. */
    private long[] cut(int s, int t, boolean each) {
        long least = Long.MAX_VALUE;
        int common = all();
        for (int set = 0; set <= all(); set++) {
            if ((set & 1 << s) == 0 || (set & 1 << t) != 0) continue;
            long sum = 0;
            for (int[] a : arcs) {
                boolean from = (set & 1 << a[0]) != 0;
                boolean to = (set & 1 << a[1]) != 0;
                if (directed ? from && !to : from != to) sum += each ? 1 : a[2];
            }
            if (sum < least) {
                least = sum;
                common = all();
            }
            if (sum == least) common &= set;
        }
        return new long[] {least, common};
    }

    /** Any greatest flow, made cheaper over rings until none is left. */
    private long price(int s, int t) {
        int links = directed ? arcs.length : 2 * arcs.length;
        int[][] link = new int[2 * links][];
        for (int i = 0; i < links; i++) {
            int[] a = arcs[i % arcs.length];
            boolean turned = i >= arcs.length;
            int cost = Math.max(0, a[3]);
            link[2 * i] = new int[] {a[turned ? 1 : 0], a[turned ? 0 : 1], a[2], cost};
            link[2 * i + 1] = new int[] {a[turned ? 0 : 1], a[turned ? 1 : 0], 0, -cost};
        }
        while (augment(link, s, t)) {
            continue;
        }
        while (cancel(link)) {
            continue;
        }
        long sum = 0;
        for (int i = 0; i < links; i++) sum += (long) link[2 * i + 1][2] * link[2 * i][3];
        return sum;
    }

    private boolean augment(int[][] link, int s, int t) {
        int[] by = new int[n];
        int reached = 1 << s;
        for (int round = 0; round < n; round++) {
            for (int k = 0; k < link.length; k++) {
                int[] l = link[k];
                if (l[2] > 0 && (reached & 1 << l[0]) != 0 && (reached & 1 << l[1]) == 0) {
                    reached |= 1 << l[1];
                    by[l[1]] = k;
                }
            }
        }
        if ((reached & 1 << t) == 0) return false;
        int amount = Integer.MAX_VALUE;
        for (int u = t; u != s; u = link[by[u]][0]) amount = Math.min(amount, link[by[u]][2]);
        for (int u = t; u != s; u = link[by[u]][0]) {
            link[by[u]][2] -= amount;
            link[by[u] ^ 1][2] += amount;
        }
        return true;
    }

    private boolean cancel(int[][] link) {
        long[] far = new long[n];
        int[] by = new int[n];
        int last = -1;
        for (int round = 0; round <= n; round++) {
            last = -1;
            for (int k = 0; k < link.length; k++) {
                int[] l = link[k];
                if (l[2] > 0 && far[l[0]] + l[3] < far[l[1]]) {
                    far[l[1]] = far[l[0]] + l[3];
                    by[l[1]] = k;
                    last = l[1];
                }
            }
        }
        if (last < 0) return false;
        for (int i = 0; i < n; i++) last = link[by[last]][0];
        int amount = link[by[last]][2];
        for (int u = link[by[last]][0]; u != last; u = link[by[u]][0]) amount = Math.min(amount, link[by[u]][2]);
        int u = last;
        do {
            int k = by[u];
            link[k][2] -= amount;
            link[k ^ 1][2] += amount;
            u = link[k][0];
        } while (u != last);
        return true;
    }

    /** Least ways by numbers of arcs: the best with just k arcs, from k - 1. Weights are not negative here. */
    private void checkLeast(GraphEngine x, int g, String name, int s) {
        Check.test("Promise 11: LEAST on greater graphs, against a slower way");
        long far = 1L << 40;
        long[][] best = new long[n][n];
        long[][] many = new long[n][n];
        int[][] last = new int[n][n];
        int[][] before = new int[n][n];
        for (long[] row : best) Arrays.fill(row, far);
        best[0][s] = 0;
        many[0][s] = 1;
        for (int k = 1; k < n; k++) {
            for (int i = 0; i < arcs.length; i++) {
                for (int turn = 0; turn < (directed || arcs[i][0] == arcs[i][1] ? 1 : 2); turn++) {
                    int u = arcs[i][turn];
                    int v = arcs[i][1 - turn];
                    long sum = best[k - 1][u] + arcs[i][2];
                    if (best[k - 1][u] == far || sum > best[k][v]) continue;
                    if (sum < best[k][v]) {
                        best[k][v] = sum;
                        many[k][v] = 0;
                        last[k][v] = i;
                        before[k][v] = u;
                    }
                    many[k][v] += many[k - 1][u];
                }
            }
        }
        int w = x.ways(g, 0, s);
        for (int v = 0; v < n; v++) {
            int k = 0;
            for (int j = 0; j < n; j++) if (best[j][v] < best[k][v]) k = j;
            boolean there = best[k][v] < far;
            String call = name + "ways from " + s + " to " + v;
            Check.due(call, x.way(w, v, 0), there ? 1 : 0);
            Check.due(call + " worth", x.way(w, v, 1), there ? best[k][v] : 0);
            Check.due(call + " arcs", x.way(w, v, 2), there ? k : -1);
            Check.due(call + " many", x.way(w, v, 3), there ? many[k][v] : 0);
            int u = v;
            for (int j = k; j > 0 && there; j--) {
                Check.due(call + " step " + (j - 1), x.step(w, v, j - 1), last[j][u]);
                u = before[j][u];
            }
        }
    }

    /** A copy with other numbers is the same; the numbering that is told makes one of the other. */
    private void checkSame(GraphEngine x, int g, String name) {
        Check.test("Promise 23: 16, 17 on greater graphs, against a slower way");
        int[] row = new int[n];
        for (int v = 0; v < n; v++) {
            int u = below(v + 1);
            row[v] = row[u];
            row[u] = v;
        }
        int[][] other = new int[arcs.length][];
        for (int i = 0; i < arcs.length; i++) other[i] = new int[] {row[arcs[i][0]], row[arcs[i][1]], arcs[i][2], arcs[i][3]};
        int h = Make.graph(x, n, directed, other);
        Check.due(name + "16", x.ask(g, 16, 0, h), 1);
        int[] told = new int[n];
        for (int v = 0; v < n; v++) told[v] = (int) x.ask(g, 17, v, h);
        int[][] mapped = new int[arcs.length][];
        for (int i = 0; i < arcs.length; i++) mapped[i] = new int[] {told[arcs[i][0]], told[arcs[i][1]], arcs[i][2], arcs[i][3]};
        Check.due(name + "17 makes the other", Arrays.equals(texts(mapped), texts(other)), true);
        for (int v = 0; v < n; v++) {
            if (told[v] != row[v]) {
                Check.due(name + "17 is not above one that is known", told[v] < row[v], true);
                break;
            }
        }
    }

    private String[] texts(int[][] rows) {
        String[] texts = new String[rows.length];
        for (int i = 0; i < rows.length; i++) {
            int[] a = rows[i];
            int first = directed ? a[0] : Math.min(a[0], a[1]);
            int second = directed ? a[1] : Math.max(a[0], a[1]);
            texts[i] = first + " " + second + " " + a[2] + " " + a[3];
        }
        Arrays.sort(texts);
        return texts;
    }
}
