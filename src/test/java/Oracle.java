import java.util.ArrayList;
import java.util.Arrays;
import java.util.List;

/** Answers about small graphs by trying all there is; written apart from the class under test. */
final class Oracle {
    final int n;
    final boolean directed;
    /** Each arc: from, to, weight, cost. */
    final int[][] arcs;

    Oracle(int n, boolean directed, int[][] arcs) {
        this.n = n;
        this.directed = directed;
        this.arcs = arcs;
    }

    // ---- views

    Oracle view(int kind, int x) {
        List<int[]> kept = new ArrayList<>();
        switch (kind) {
            case 0:
                for (int[] a : arcs) kept.add(new int[] {a[1], a[0], a[2], a[3]});
                return with(n, directed, kept);
            case 1:
                return new Oracle(n, false, arcs);
            case 2:
                for (int[] a : arcs) if (a[0] != a[1]) kept.add(a);
                return with(n, directed, kept);
            case 3:
                return with(n, directed, simple());
            case 4:
                return partOf(x);
            case 5:
                for (int[] a : arcs) if (a[2] >= x) kept.add(a);
                return with(n, directed, kept);
            case 6:
                return squared();
            default:
                return lines();
        }
    }

    private static Oracle with(int n, boolean directed, List<int[]> kept) {
        return new Oracle(n, directed, kept.toArray(new int[0][]));
    }

    private List<int[]> simple() {
        List<int[]> kept = new ArrayList<>();
        for (int i = 0; i < arcs.length; i++) {
            if (arcs[i][0] == arcs[i][1]) continue;
            int best = i;
            for (int j = 0; j < arcs.length; j++) {
                boolean same = arcs[j][0] == arcs[i][0] && arcs[j][1] == arcs[i][1];
                boolean turned = arcs[j][0] == arcs[i][1] && arcs[j][1] == arcs[i][0];
                if ((same || (!directed && turned))
                        && (arcs[j][2] < arcs[best][2] || (arcs[j][2] == arcs[best][2] && j < best))) best = j;
            }
            if (best == i) kept.add(arcs[i]);
        }
        return kept;
    }

    private Oracle partOf(int x) {
        int[] number = new int[n];
        int next = 0;
        for (int v = 0; v < n; v++) {
            number[v] = -1;
            if ((x & 1 << v) != 0) number[v] = next++;
        }
        List<int[]> kept = new ArrayList<>();
        for (int[] a : arcs) {
            if (number[a[0]] >= 0 && number[a[1]] >= 0) kept.add(new int[] {number[a[0]], number[a[1]], a[2], a[3]});
        }
        return with(next, directed, kept);
    }

    private Oracle squared() {
        List<int[]> kept = new ArrayList<>();
        for (int a = 0; a < n; a++) {
            for (int b = directed ? 0 : a; b < n; b++) {
                int best = Integer.MAX_VALUE;
                for (int[] first : goings()) {
                    for (int[] second : goings()) {
                        if (first[0] == a && first[1] == second[0] && second[1] == b) {
                            best = Math.min(best, arcs[first[2]][2] + arcs[second[2]][2]);
                        }
                    }
                }
                if (best != Integer.MAX_VALUE) {
                    kept.add(new int[] {a, b, Math.max(-1000, Math.min(1000, best)), 0});
                }
            }
        }
        return kept.size() > 60 ? null : with(n, directed, kept);
    }

    private Oracle lines() {
        List<int[]> kept = new ArrayList<>();
        for (int i = 0; i < arcs.length; i++) {
            for (int j = 0; j < arcs.length; j++) {
                boolean common = arcs[i][0] == arcs[j][0] || arcs[i][0] == arcs[j][1]
                        || arcs[i][1] == arcs[j][0] || arcs[i][1] == arcs[j][1];
                if (directed ? arcs[i][1] == arcs[j][0] : i < j && common) kept.add(new int[] {i, j, 0, 0});
            }
        }
        return kept.size() > 60 ? null : with(arcs.length, directed, kept);
    }

    Oracle joined(Oracle other) {
        List<int[]> kept = new ArrayList<>(Arrays.asList(arcs));
        for (int[] a : other.arcs) kept.add(new int[] {a[0] + n, a[1] + n, a[2], a[3]});
        return with(n + other.n, directed, kept);
    }

    Oracle melted(int[] part) {
        List<int[]> kept = new ArrayList<>();
        int most = 0;
        for (int p : part) most = Math.max(most, p + 1);
        for (int[] a : arcs) {
            if (part[a[0]] != part[a[1]]) kept.add(new int[] {part[a[0]], part[a[1]], a[2], a[3]});
        }
        return with(most, directed, kept);
    }

    /** {tail, head, arc}: every direction in which an arc can be gone; a loop once. */
    private List<int[]> goings() {
        List<int[]> all = new ArrayList<>();
        for (int i = 0; i < arcs.length; i++) {
            all.add(new int[] {arcs[i][0], arcs[i][1], i});
            if (!directed && arcs[i][0] != arcs[i][1]) all.add(new int[] {arcs[i][1], arcs[i][0], i});
        }
        return all;
    }

    private boolean areJoined(int u, int v) {
        for (int[] a : arcs) {
            if (u != v && ((a[0] == u && a[1] == v) || (a[0] == v && a[1] == u))) return true;
        }
        return false;
    }

    /** Whether the nodes of a set hang together over nodes of the set, by arcs of a set of arcs. */
    private boolean hangs(int set, long by) {
        return set == 0 || piece(Integer.numberOfTrailingZeros(set), set, by) == set;
    }

    private int piece(int v, int set, long by) {
        int seen = 1 << v;
        for (int round = 0; round < n; round++) {
            for (int i = 0; i < arcs.length; i++) {
                int ends = 1 << arcs[i][0] | 1 << arcs[i][1];
                if ((by & 1L << i) != 0 && (ends & ~set) == 0 && (ends & seen) != 0) seen |= ends;
            }
        }
        return seen;
    }

    private int pieces(long by) {
        int seen = 0;
        int sum = 0;
        for (int v = 0; v < n; v++) {
            if ((seen & 1 << v) == 0) {
                sum++;
                seen |= piece(v, all(), by);
            }
        }
        return sum;
    }

    private int all() {
        return (1 << n) - 1;
    }

    private long allArcs() {
        return (1L << arcs.length) - 1;
    }

    // ---- columns

    long[] column(int kind, int x) {
        long[] c = new long[n];
        for (int v = 0; v < n; v++) {
            switch (kind) {
                case 0: c[v] = degree(v, true, !directed); break;
                case 1: c[v] = degree(v, !directed, true); break;
                case 2:
                    for (int[] a : arcs) if (a[0] == v || (!directed && a[1] == v)) c[v] += a[2];
                    break;
                case 3: c[v] = core(v); break;
                case 4:
                    for (int d : distances(v)) c[v] = Math.max(c[v], d);
                    break;
                case 5: c[v] = walks(v, x); break;
                default: c[v] = blocks(v); break;
            }
        }
        return c;
    }

    private long degree(int v, boolean tails, boolean heads) {
        long sum = 0;
        for (int[] a : arcs) {
            if (tails && a[0] == v) sum++;
            if (heads && a[1] == v) sum++;
        }
        return sum;
    }

    private long core(int v) {
        int best = 0;
        for (int set = 1; set <= all(); set++) {
            if ((set & 1 << v) == 0) continue;
            int least = Integer.MAX_VALUE;
            for (int u = 0; u < n; u++) {
                if ((set & 1 << u) == 0) continue;
                int ends = 0;
                for (int[] a : arcs) {
                    boolean inside = (set & 1 << a[0]) != 0 && (set & 1 << a[1]) != 0 && a[0] != a[1];
                    if (inside && (a[0] == u || a[1] == u)) ends++;
                }
                least = Math.min(least, ends);
            }
            best = Math.max(best, least);
        }
        return best;
    }

    /** Least numbers of arcs from a node; -1 where one does not get. */
    private int[] distances(int s) {
        int[] d = new int[n];
        Arrays.fill(d, -1);
        d[s] = 0;
        for (int round = 0; round < n; round++) {
            for (int[] go : goings()) {
                if (d[go[0]] >= 0 && (d[go[1]] < 0 || d[go[1]] > d[go[0]] + 1)) d[go[1]] = d[go[0]] + 1;
            }
        }
        return d;
    }

    private long walks(int v, int x) {
        if (x == 0) return 1;
        long sum = 0;
        for (int[] go : goings()) if (go[0] == v) sum += walks(go[1], x - 1);
        return sum;
    }

    private boolean isWhole(int set) {
        if (Integer.bitCount(set) < 2 || !hangs(set, allArcs())) return false;
        for (int v = 0; v < n; v++) {
            if ((set & 1 << v) != 0 && !hangs(set & ~(1 << v), allArcs())) return false;
        }
        return true;
    }

    private long blocks(int v) {
        long sum = 0;
        for (int set = 1; set <= all(); set++) {
            if ((set & 1 << v) == 0 || !isWhole(set)) continue;
            boolean greatest = true;
            for (int more = 1; more <= all(); more++) {
                if (more != set && (more & set) == set && isWhole(more)) greatest = false;
            }
            if (greatest) sum++;
        }
        return sum;
    }

    long[] program(long[] start, int message, int join, boolean own, int rounds) {
        long[] now = start.clone();
        for (int round = 0; round < rounds; round++) {
            long[] next = new long[n];
            for (int v = 0; v < n; v++) {
                List<Long> got = new ArrayList<>();
                for (int[] go : goings()) {
                    if (go[1] != v) continue;
                    long a = now[go[0]];
                    long w = arcs[go[2]][2];
                    long[] made = {a, a + w, a * w, Math.min(a, w), a ^ w};
                    got.add(made[message]);
                }
                if (own) got.add(now[v]);
                next[v] = got.isEmpty() ? now[v] : got.get(0);
                for (int i = 1; i < got.size(); i++) {
                    long a = next[v];
                    long b = got.get(i);
                    long[] made = {Math.min(a, b), Math.max(a, b), a + b, a ^ b};
                    next[v] = made[join];
                }
            }
            now = next;
        }
        return now;
    }

    // ---- ways

    /** For each node: {there, worth, arcs, many, arcs of the way ..}. */
    long[][] ways(int kind, int s) {
        List<List<int[]>> found = new ArrayList<>();
        for (int v = 0; v < n; v++) found.add(new ArrayList<>());
        collect(s, new int[0], found);
        long[][] answers = new long[n][];
        for (int v = 0; v < n; v++) {
            answers[v] = kind == 0 && isEndless(s, v) ? new long[] {2, 0, -1, 0} : bestOf(kind, found.get(v));
        }
        return answers;
    }

    private void collect(int v, int[] row, List<List<int[]>> found) {
        found.get(v).add(row);
        if (row.length >= n - 1) return;
        for (int[] go : goings()) {
            if (go[0] == v) {
                int[] longer = Arrays.copyOf(row, row.length + 1);
                longer[row.length] = go[2];
                collect(go[1], longer, found);
            }
        }
    }

    private boolean isEndless(int s, int v) {
        long far = 1L << 40;
        long[][] d = new long[n][n];
        for (long[] row : d) Arrays.fill(row, far);
        for (int[] go : goings()) d[go[0]][go[1]] = Math.min(d[go[0]][go[1]], arcs[go[2]][2]);
        for (int k = 0; k < n; k++) {
            for (int a = 0; a < n; a++) {
                for (int b = 0; b < n; b++) {
                    if (d[a][k] < far && d[k][b] < far) d[a][b] = Math.max(-far, Math.min(d[a][b], d[a][k] + d[k][b]));
                }
            }
        }
        for (int u = 0; u < n; u++) {
            if (d[u][u] < 0 && (s == u || d[s][u] < far) && (u == v || d[u][v] < far)) return true;
        }
        return false;
    }

    private long worth(int kind, int[] row) {
        long sum = 0;
        long least = 1001;
        for (int i : row) {
            sum += arcs[i][2];
            least = Math.min(least, arcs[i][2]);
        }
        return kind == 0 ? sum : kind == 1 ? row.length : least;
    }

    private long[] bestOf(int kind, List<int[]> rows) {
        if (rows.isEmpty()) return new long[] {0, 0, -1, 0};
        int[] best = null;
        long many = 0;
        for (int[] row : rows) {
            int c = best == null ? -1 : compare(kind, row, best);
            if (c < 0) many = 0;
            if (c <= 0) many++;
            if (c < 0 || (c == 0 && isBeforeFromEnd(row, best))) best = row;
        }
        long[] answer = new long[4 + best.length];
        answer[0] = 1;
        answer[1] = worth(kind, best);
        answer[2] = best.length;
        answer[3] = many;
        for (int i = 0; i < best.length; i++) answer[4 + i] = best[i];
        return answer;
    }

    private int compare(int kind, int[] a, int[] b) {
        long wa = worth(kind, a);
        long wb = worth(kind, b);
        int c = kind == 2 ? Long.compare(wb, wa) : Long.compare(wa, wb);
        return c != 0 ? c : Integer.compare(a.length, b.length);
    }

    private static boolean isBeforeFromEnd(int[] a, int[] b) {
        for (int i = a.length - 1; i >= 0; i--) if (a[i] != b[i]) return a[i] < b[i];
        return false;
    }

    // ---- parts

    /** The part of each node, numbered by least nodes. */
    int[] parts(int kind, long[] column) {
        long left = allArcs();
        for (int i = 0; i < arcs.length && kind == 2; i++) {
            if (pieces(allArcs() & ~(1L << i)) > pieces(allArcs())) left &= ~(1L << i);
        }
        int[] part = new int[n];
        int next = 0;
        for (int v = 0; v < n; v++) {
            part[v] = -1;
            for (int u = 0; u < v && part[v] < 0; u++) {
                boolean same;
                switch (kind) {
                    case 0: same = distances(u)[v] >= 0 && distances(v)[u] >= 0; break;
                    case 1: same = (piece(u, all(), allArcs()) & 1 << v) != 0; break;
                    case 2: same = (piece(u, all(), left) & 1 << v) != 0; break;
                    case 3: same = around(u, 0) == around(v, 0) && around(u, 1) == around(v, 1); break;
                    default: same = column[u] == column[v]; break;
                }
                if (same) part[v] = part[u];
            }
            if (part[v] < 0) part[v] = next++;
        }
        return part;
    }

    private int around(int v, int side) {
        int set = 0;
        for (int[] go : goings()) if (go[side] == v && go[0] != go[1]) set |= 1 << go[1 - side];
        return set;
    }

    // ---- asked

    long ask(int what, int x, int y) {
        switch (what) {
            case 0: return order(x);
            case 1: return ring();
            case 2: return side(x);
            case 3: return greatestSet(true);
            case 4: return greatestSet(false);
            case 5: return colours();
            case 6: return width(all(), joinings());
            case 7: return pairs(0, 0)[0];
            case 8: return pairs(0, 0)[1];
            case 9: return trees();
            case 10: return light() >> 20;
            case 11: return (light() & 1L << x) != 0 ? 1 : 0;
            case 12: return flow(x, y, false);
            case 13: return cut(x, y);
            case 14: return price(x, y);
            default: return flow(x, y, true);
        }
    }

    private long order(int place) {
        if (!directed && arcs.length > 0) return -1;
        for (int[] row : Permutations.of(n)) {
            boolean good = true;
            for (int[] a : arcs) {
                if (placeOf(row, a[0]) >= placeOf(row, a[1])) good = false;
            }
            if (good) return row[place];
        }
        return -1;
    }

    private static int placeOf(int[] row, int v) {
        for (int i = 0; i < row.length; i++) if (row[i] == v) return i;
        return -1;
    }

    private long ring() {
        int best = 0;
        for (int v = 0; v < n; v++) {
            int r = ringFrom(v, v, 0, 0L, 0);
            if (r > 0 && (best == 0 || r < best)) best = r;
        }
        return best;
    }

    private int ringFrom(int start, int v, int seen, long used, int length) {
        int best = 0;
        for (int[] go : goings()) {
            if (go[0] != v || (used & 1L << go[2]) != 0) continue;
            int r = 0;
            if (go[1] == start) r = length + 1;
            else if ((seen & 1 << go[1]) == 0) r = ringFrom(start, go[1], seen | 1 << go[1], used | 1L << go[2], length + 1);
            if (r > 0 && (best == 0 || r < best)) best = r;
        }
        return best;
    }

    private long side(int x) {
        for (int ones = 0; ones <= all(); ones++) {
            boolean good = true;
            for (int[] a : arcs) if ((ones >> a[0] & 1) == (ones >> a[1] & 1)) good = false;
            for (int v = 0; v < n; v++) {
                boolean least = Integer.numberOfTrailingZeros(piece(v, all(), allArcs())) == v;
                if (least && (ones & 1 << v) != 0) good = false;
            }
            if (good) return ones >> x & 1;
        }
        return -1;
    }

    private long greatestSet(boolean joined) {
        int best = 0;
        for (int set = 0; set <= all(); set++) {
            boolean good = true;
            for (int u = 0; u < n; u++) {
                for (int v = 0; v < u; v++) {
                    if ((set & 1 << u) != 0 && (set & 1 << v) != 0 && areJoined(u, v) != joined) good = false;
                }
            }
            if (good && Integer.bitCount(set) > Integer.bitCount(best)) best = set;
        }
        return best;
    }

    private long colours() {
        for (int k = 1; k <= n; k++) {
            if (paint(new int[n], 0, k)) return k;
        }
        return -1;
    }

    private boolean paint(int[] colour, int v, int k) {
        if (v == n) return true;
        for (int c = 0; c < k; c++) {
            boolean good = true;
            for (int u = 0; u < v; u++) if (areJoined(u, v) && colour[u] == c) good = false;
            colour[v] = c;
            if (good && paint(colour, v + 1, k)) return true;
        }
        return false;
    }

    private boolean[][] joinings() {
        boolean[][] j = new boolean[n][n];
        for (int u = 0; u < n; u++) for (int v = 0; v < n; v++) j[u][v] = areJoined(u, v);
        return j;
    }

    private int width(int left, boolean[][] j) {
        if (left == 0) return 0;
        int best = n;
        for (int v = 0; v < n; v++) {
            if ((left & 1 << v) == 0) continue;
            boolean[][] next = new boolean[n][];
            for (int u = 0; u < n; u++) next[u] = j[u].clone();
            int near = 0;
            for (int u = 0; u < n; u++) {
                if ((left & 1 << u) == 0 || !j[v][u]) continue;
                near++;
                for (int w = 0; w < n; w++) if (w != u && (left & 1 << w) != 0 && j[v][w]) next[u][w] = true;
            }
            best = Math.min(best, Math.max(near, width(left & ~(1 << v), next)));
        }
        return best;
    }

    /** {the greatest number of pairs, the nodes missed by some such choice}. */
    private int[] pairs(int v, int used) {
        int[] best = {0, 0};
        if (v == n) return new int[] {0, all() & ~used};
        int[] without = pairs(v + 1, used);
        if ((used & 1 << v) != 0) return without;
        best = without;
        for (int u = v + 1; u < n; u++) {
            if ((used & 1 << u) != 0 || !areJoined(u, v)) continue;
            int[] with = pairs(v + 1, used | 1 << u | 1 << v);
            int size = with[0] + 1;
            if (size > best[0]) best = new int[] {size, with[1]};
            else if (size == best[0]) best = new int[] {size, with[1] | best[1]};
        }
        return best;
    }

    private long trees() {
        long sum = 0;
        for (long by = 0; by <= allArcs(); by++) {
            if (Long.bitCount(by) == n - 1 && pieces(by) == 1) sum++;
        }
        return sum % 1000000007L;
    }

    /** The lightest choice: its weight times 2^20, and its arcs; of one weight lesser numbers first. */
    private long light() {
        long best = Long.MAX_VALUE;
        int goal = pieces(allArcs());
        long bestOrder = Long.MAX_VALUE;
        for (long by = 0; by <= allArcs(); by++) {
            if (pieces(by) != goal || Long.bitCount(by) != n - goal) continue;
            long weight = 0;
            for (int i = 0; i < arcs.length; i++) if ((by & 1L << i) != 0) weight += arcs[i][2];
            if (best == Long.MAX_VALUE || weight < best >> 20 || (weight == best >> 20 && by < bestOrder)) {
                best = (weight << 20) + by;
                bestOrder = by;
            }
        }
        return best;
    }

    private long leaving(int set, boolean each) {
        long sum = 0;
        for (int[] go : goings()) {
            boolean out = (set & 1 << go[0]) != 0 && (set & 1 << go[1]) == 0;
            if (out) sum += each ? 1 : Math.max(0, arcs[go[2]][2]);
        }
        return sum;
    }

    private long flow(int x, int y, boolean each) {
        long best = Long.MAX_VALUE;
        for (int set = 0; set <= all(); set++) {
            if ((set & 1 << x) != 0 && (set & 1 << y) == 0) best = Math.min(best, leaving(set, each));
        }
        return best;
    }

    private long cut(int x, int y) {
        long goal = flow(x, y, false);
        for (int set = 0; set <= all(); set++) {
            if ((set & 1 << x) != 0 && (set & 1 << y) == 0 && leaving(set, false) == goal) {
                boolean least = true;
                for (int less = 0; less < set; less++) {
                    boolean cuts = (less & ~set) == 0 && (less & 1 << x) != 0 && leaving(less, false) == goal;
                    if (cuts) least = false;
                }
                if (least) return set;
            }
        }
        return -1;
    }

    /** Tries every amount by every arc: for few arcs of little weight alone. */
    private long price(int x, int y) {
        return cheapest(0, new long[n], 0, x, y, flow(x, y, false));
    }

    private long cheapest(int i, long[] gain, long cost, int x, int y, long goal) {
        if (i == arcs.length) {
            for (int v = 0; v < n; v++) {
                long want = v == x ? -goal : v == y ? goal : 0;
                if (gain[v] != want) return Long.MAX_VALUE;
            }
            return cost;
        }
        long best = Long.MAX_VALUE;
        int most = Math.max(0, arcs[i][2]);
        for (int amount = directed ? 0 : -most; amount <= most; amount++) {
            gain[arcs[i][0]] -= amount;
            gain[arcs[i][1]] += amount;
            long more = (long) Math.max(0, arcs[i][3]) * Math.abs(amount);
            best = Math.min(best, cheapest(i + 1, gain, cost + more, x, y, goal));
            gain[arcs[i][0]] += amount;
            gain[arcs[i][1]] -= amount;
        }
        return best;
    }

    /** The first numbering anew that makes this graph the other one; null if there is none. */
    int[] numbering(Oracle other) {
        if (n != other.n || directed != other.directed || arcs.length != other.arcs.length) return null;
        List<String> want = other.sorted(null);
        for (int[] row : Permutations.of(n)) {
            if (sorted(row).equals(want)) return row;
        }
        return null;
    }

    private List<String> sorted(int[] row) {
        List<String> texts = new ArrayList<>();
        for (int[] a : arcs) {
            int from = row == null ? a[0] : row[a[0]];
            int to = row == null ? a[1] : row[a[1]];
            int first = directed ? from : Math.min(from, to);
            int second = directed ? to : Math.max(from, to);
            texts.add(first + " " + second + " " + a[2] + " " + a[3]);
        }
        texts.sort(null);
        return texts;
    }
}
