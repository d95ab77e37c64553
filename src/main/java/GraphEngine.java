import java.util.Arrays;

/**
 * An engine for graphs: versions that never change, views of them, columns, programs, ways, parts
 * and what can be asked of a graph. Whatever is made is kept under a handle.
 */
public final class GraphEngine {
    private static final int MOST_NODES = 16;
    private static final int MOST_ARCS = 60;
    private static final int MOST_HANDLES = 120;
    private static final int MOST_WEIGHT = 1000;
    private static final int MOST_WALK = 1000;
    private static final int MOST_ROUNDS = 200;

    private static final int NO_HANDLE = -1;
    private static final int OTHER_SORT = -2;
    private static final int BAD_NUMBER = -3;
    private static final int NO_ROOM = -4;

    private static final int GRAPH_SORT = 1;
    private static final int COLUMN_SORT = 2;
    private static final int WAYS_SORT = 3;
    private static final int PARTS_SORT = 4;

    private static final int ASK_SAME = 16;
    private static final int ASK_NUMBERING = 17;

    private final Thing[] things;
    private int count;
    private int refusal;
    private final Draft draft;
    /** Views are drawn here before they become graphs, so that the draft of the caller stays. */
    private final Draft sketch;
    private final Shape shape;
    private final Sets sets;
    private final Pairs pairs;
    private final Flows flows;
    private final Sameness sameness;

    public GraphEngine() {
        things = new Thing[MOST_HANDLES];
        count = 0;
        refusal = 0;
        draft = new Draft();
        sketch = new Draft();
        shape = new Shape();
        sets = new Sets();
        pairs = new Pairs();
        flows = new Flows();
        sameness = new Sameness();
    }

    public boolean begin(int n, boolean directed) {
        refusal = 0;
        if (n < 1 || n > MOST_NODES) {
            refusal = BAD_NUMBER;
            return false;
        }
        draft.restart(n, directed);
        return true;
    }

    public int arc(int from, int to, int weight, int cost) {
        refusal = 0;
        if (!isNode(from, draft.nodes) || !isNode(to, draft.nodes) || !isWeight(weight) || !isWeight(cost)) {
            return refuse(BAD_NUMBER);
        }
        int number = draft.arcs;
        return draft.add(from, to, weight, cost) ? number : refuse(NO_ROOM);
    }

    public int graph() {
        refusal = 0;
        return isFull() ? refuse(NO_ROOM) : keep(new Graph(draft));
    }

    public int view(int graph, int kind, int x) {
        refusal = 0;
        Graph g = graphAt(graph);
        if (g == null) {
            return refuse(whyNot(graph));
        }
        if (!Draft.isView(g, kind, x)) {
            return refuse(BAD_NUMBER);
        }
        if (isFull() || !sketch.draw(g, kind, x)) {
            return refuse(NO_ROOM);
        }
        return keep(new Graph(sketch));
    }

    public int join(int a, int b, boolean parts) {
        refusal = 0;
        return parts ? melt(a, b) : append(a, b);
    }

    private int append(int a, int b) {
        Graph first = graphAt(a);
        Graph second = graphAt(b);
        if (first == null || second == null) {
            return refuse(whyNotBoth(a, b));
        }
        if (first.directed != second.directed) {
            return refuse(BAD_NUMBER);
        }
        boolean fits = first.nodes + second.nodes <= MOST_NODES && first.arcs + second.arcs <= MOST_ARCS;
        if (isFull() || !fits) {
            return refuse(NO_ROOM);
        }
        sketch.drawBoth(first, second);
        return keep(new Graph(sketch));
    }

    private int melt(int a, int b) {
        Graph g = graphAt(a);
        Parts p = partsAt(b);
        if (g == null || p == null) {
            return refuse(whyNotBoth(a, b));
        }
        if (g.nodes != p.nodes) {
            return refuse(BAD_NUMBER);
        }
        if (isFull()) {
            return refuse(NO_ROOM);
        }
        sketch.drawMelted(g, p);
        return keep(new Graph(sketch));
    }

    public int column(int graph, int kind, int x) {
        refusal = 0;
        Graph g = graphAt(graph);
        if (g == null) {
            return refuse(whyNot(graph));
        }
        boolean good = kind >= 0 && kind <= 6 && (kind != Column.WALKS || (x >= 0 && x <= MOST_WALK));
        if (!good) {
            return refuse(BAD_NUMBER);
        }
        if (isFull()) {
            return refuse(NO_ROOM);
        }
        Column c = new Column(g.nodes);
        c.measure(g, kind, x);
        return keep(c);
    }

    public int flat(int n, long v, int node, long other) {
        refusal = 0;
        if (n < 1 || n > MOST_NODES || node < -1 || node >= n) {
            return refuse(BAD_NUMBER);
        }
        if (isFull()) {
            return refuse(NO_ROOM);
        }
        Column c = new Column(n);
        Arrays.fill(c.numbers, v);
        if (node >= 0) {
            c.numbers[node] = other;
        }
        return keep(c);
    }

    public int mix(int a, int b, int kind) {
        refusal = 0;
        Column first = columnAt(a);
        Column second = columnAt(b);
        if (first == null || second == null) {
            return refuse(whyNotBoth(a, b));
        }
        if (first.nodes != second.nodes || kind < 0 || kind > 6) {
            return refuse(BAD_NUMBER);
        }
        if (isFull()) {
            return refuse(NO_ROOM);
        }
        Column c = new Column(first.nodes);
        c.blend(first, second, kind);
        return keep(c);
    }

    public int run(int graph, int column, int message, int join, boolean own, int rounds) {
        refusal = 0;
        Graph g = graphAt(graph);
        Column first = columnAt(column);
        if (g == null || first == null) {
            return refuse(whyNotBoth(graph, column));
        }
        boolean good = message >= 0 && message <= 4 && join >= 0 && join <= 3
                && rounds >= 0 && rounds <= MOST_ROUNDS && g.nodes == first.nodes;
        if (!good) {
            return refuse(BAD_NUMBER);
        }
        if (isFull()) {
            return refuse(NO_ROOM);
        }
        Column c = new Column(first.nodes);
        System.arraycopy(first.numbers, 0, c.numbers, 0, first.nodes);
        c.play(g, message, join, own, rounds);
        return keep(c);
    }

    public int ways(int graph, int kind, int from) {
        refusal = 0;
        Graph g = graphAt(graph);
        if (g == null) {
            return refuse(whyNot(graph));
        }
        if (kind < 0 || kind > 2 || !isNode(from, g.nodes)) {
            return refuse(BAD_NUMBER);
        }
        return isFull() ? refuse(NO_ROOM) : keep(new Ways(g, kind, from));
    }

    public int parts(int graph, int kind, int x) {
        refusal = 0;
        if (kind == Parts.BY_COLUMN) {
            return partsByColumn(graph, x);
        }
        Graph g = graphAt(graph);
        if (g == null) {
            return refuse(whyNot(graph));
        }
        if (kind < 0 || kind > Parts.BY_COLUMN) {
            return refuse(BAD_NUMBER);
        }
        return isFull() ? refuse(NO_ROOM) : keep(new Parts(g, kind, null));
    }

    private int partsByColumn(int graph, int x) {
        Graph g = graphAt(graph);
        Column c = columnAt(x);
        if (g == null || c == null) {
            return refuse(whyNotBoth(graph, x));
        }
        if (g.nodes != c.nodes) {
            return refuse(BAD_NUMBER);
        }
        return isFull() ? refuse(NO_ROOM) : keep(new Parts(g, Parts.BY_COLUMN, c));
    }

    public int drop() {
        refusal = 0;
        if (count <= 0) {
            return refuse(NO_HANDLE);
        }
        count--;
        things[count] = null;
        return count;
    }

    public int refused() {
        return refusal;
    }

    public int handles() {
        refusal = 0;
        return count;
    }

    public int sort(int handle) {
        refusal = 0;
        Thing t = thingAt(handle);
        return t == null ? deny(NO_HANDLE) : t.sortNumber();
    }

    public int of(int graph, int what, int k) {
        refusal = 0;
        Graph g = graphAt(graph);
        if (g == null) {
            return deny(whyNot(graph));
        }
        if (what < 0 || what > 6 || (what >= 3 && !isNode(k, g.arcs))) {
            return deny(BAD_NUMBER);
        }
        return g.detail(what, k);
    }

    public long at(int column, int node) {
        refusal = 0;
        Column c = columnAt(column);
        if (c == null) {
            return deny(whyNot(column));
        }
        if (node == -1) {
            return c.total();
        }
        return isNode(node, c.nodes) ? c.numbers[node] : deny(BAD_NUMBER);
    }

    public long way(int ways, int node, int what) {
        refusal = 0;
        Ways w = waysAt(ways);
        if (w == null) {
            return deny(whyNot(ways));
        }
        if (!isNode(node, w.nodes) || what < 0 || what > 3) {
            return deny(BAD_NUMBER);
        }
        return w.detail(node, what);
    }

    public int step(int ways, int node, int k) {
        refusal = 0;
        Ways w = waysAt(ways);
        if (w == null) {
            return deny(whyNot(ways));
        }
        return isNode(node, w.nodes) ? w.arcOnWay(node, k) : deny(BAD_NUMBER);
    }

    public int part(int parts, int node) {
        refusal = 0;
        Parts p = partsAt(parts);
        if (p == null) {
            return deny(whyNot(parts));
        }
        if (node == -1) {
            return p.size;
        }
        return isNode(node, p.nodes) ? p.number[node] : deny(BAD_NUMBER);
    }

    public int members(int parts, int k) {
        refusal = 0;
        Parts p = partsAt(parts);
        if (p == null) {
            return deny(whyNot(parts));
        }
        return isNode(k, p.size) ? p.nodesOf[k] : 0;
    }

    public long ask(int graph, int what, int x, int y) {
        refusal = 0;
        if (what == ASK_SAME || what == ASK_NUMBERING) {
            return askSameness(graph, what, x, y);
        }
        Graph g = graphAt(graph);
        if (g == null) {
            return deny(whyNot(graph));
        }
        return isQuestion(g, what, x, y) ? answer(g, what, x, y) : deny(BAD_NUMBER);
    }

    private long askSameness(int graph, int what, int x, int y) {
        Graph g = graphAt(graph);
        Graph other = graphAt(y);
        if (g == null || other == null) {
            return deny(whyNotBoth(graph, y));
        }
        if (what == ASK_SAME) {
            return sameness.find(g, other) ? 1 : 0;
        }
        if (!isNode(x, g.nodes)) {
            return deny(BAD_NUMBER);
        }
        return sameness.find(g, other) ? sameness.newNumber(x) : -1;
    }

    private static boolean isQuestion(Graph g, int what, int x, int y) {
        if (what < 0 || what > ASK_NUMBERING) {
            return false;
        }
        if (what == 0 || what == 2) {
            return isNode(x, g.nodes);
        }
        if (what == 11) {
            return isNode(x, g.arcs);
        }
        if (what >= 12 && what <= 15) {
            return isNode(x, g.nodes) && isNode(y, g.nodes) && x != y;
        }
        return true;
    }

    private long answer(Graph g, int what, int x, int y) {
        switch (what) {
            case 0: return Shape.order(g, x);
            case 1: return Shape.ring(g);
            case 2: return Shape.side(g, x);
            case 3: return sets.greatestJoined(g);
            case 4: return sets.greatestApart(g);
            case 5: return sets.colours(g);
            case 6: return sets.width(g);
            case 7: return pairs.greatest(g);
            case 8: return pairs.missed(g);
            case 9: return shape.trees(g);
            case 10: return Shape.lightWeight(g);
            case 11: return Shape.lightArcs(g) >> x & 1L;
            case 12: return flows.most(g, false, x, y);
            case 13: return flows.cut(g, x, y);
            case 14: return flows.price(g, x, y);
            default: return flows.most(g, true, x, y);
        }
    }

    private static boolean isNode(int v, int n) {
        return v >= 0 && v < n;
    }

    private static boolean isWeight(int w) {
        return w >= -MOST_WEIGHT && w <= MOST_WEIGHT;
    }

    private boolean isFull() {
        return count >= MOST_HANDLES;
    }

    private int keep(Thing t) {
        int handle = count;
        if (handle < 0 || handle >= MOST_HANDLES) {
            return refuse(NO_ROOM);
        }
        things[handle] = t;
        count = handle + 1;
        return handle;
    }

    /** What a call that makes something answers when it is refused. */
    private int refuse(int why) {
        refusal = why;
        return why;
    }

    /** What a call that asks answers when it is refused. */
    private int deny(int why) {
        refusal = why;
        return 0;
    }

    /** Why a handle did not give a thing of the sort that was looked for. */
    private int whyNot(int handle) {
        return thingAt(handle) == null ? NO_HANDLE : OTHER_SORT;
    }

    private int whyNotBoth(int a, int b) {
        return thingAt(a) == null || thingAt(b) == null ? NO_HANDLE : OTHER_SORT;
    }

    private Thing thingAt(int handle) {
        return isNode(handle, count) && handle < MOST_HANDLES ? things[handle] : null;
    }

    private Graph graphAt(int handle) {
        return thingAt(handle) instanceof Graph g ? g : null;
    }

    private Column columnAt(int handle) {
        return thingAt(handle) instanceof Column c ? c : null;
    }

    private Ways waysAt(int handle) {
        return thingAt(handle) instanceof Ways w ? w : null;
    }

    private Parts partsAt(int handle) {
        return thingAt(handle) instanceof Parts p ? p : null;
    }

    /** Whatever can have a handle. */
    private abstract static class Thing {
        final int nodes;

        Thing(int nodes) {
            this.nodes = nodes;
        }

        abstract int sortNumber();
    }

    /** A graph that is being made: arc by arc by the caller, or as a view of graphs that are there. */
    private static final class Draft {
        private static final int REVERSED = 0;
        private static final int UNDIRECTED = 1;
        private static final int NO_LOOPS = 2;
        private static final int SIMPLE = 3;
        private static final int PART = 4;
        private static final int HEAVY = 5;
        private static final int SQUARED = 6;
        private static final int LINES = 7;
        /** Above every weight and every sum of two. */
        private static final int NO_WEIGHT = 5000;

        int nodes;
        boolean directed;
        int arcs;
        final int[] from;
        final int[] to;
        final int[] weight;
        final int[] cost;
        private final int[] lightest;

        Draft() {
            nodes = 1;
            directed = false;
            arcs = 0;
            from = new int[MOST_ARCS];
            to = new int[MOST_ARCS];
            weight = new int[MOST_ARCS];
            cost = new int[MOST_ARCS];
            lightest = new int[MOST_NODES * MOST_NODES];
        }

        void restart(int newNodes, boolean newDirected) {
            nodes = newNodes;
            directed = newDirected;
            arcs = 0;
        }

        /** Whether there was room for one arc more. */
        boolean add(int tail, int head, int newWeight, int newCost) {
            int i = arcs;
            if (i < 0 || i >= MOST_ARCS) {
                return false;
            }
            from[i] = tail;
            to[i] = head;
            weight[i] = newWeight;
            cost[i] = newCost;
            arcs = i + 1;
            return true;
        }

        static boolean isView(Graph g, int kind, int x) {
            if (kind < REVERSED || kind > LINES) {
                return false;
            }
            if (kind == PART) {
                return x != 0 && (x & ~g.allNodes()) == 0;
            }
            return kind != LINES || (g.arcs >= 1 && g.arcs <= MOST_NODES);
        }

        /** Draws a view; whether its arcs fit. */
        boolean draw(Graph g, int kind, int x) {
            switch (kind) {
                case PART: return drawPart(g, x);
                case SQUARED: return drawSquared(g);
                case LINES: return drawLines(g);
                default: return drawKept(g, kind, x);
            }
        }

        private boolean drawKept(Graph g, int kind, int x) {
            restart(g.nodes, g.directed && kind != UNDIRECTED);
            boolean fits = true;
            for (int i = 0; i < g.arcs; i++) {
                if (isKept(g, kind, x, i)) {
                    int tail = kind == REVERSED ? g.to[i] : g.from[i];
                    int head = kind == REVERSED ? g.from[i] : g.to[i];
                    fits = add(tail, head, g.weight[i], g.cost[i]) && fits;
                }
            }
            return fits;
        }

        private static boolean isKept(Graph g, int kind, int x, int i) {
            switch (kind) {
                case NO_LOOPS: return g.from[i] != g.to[i];
                case SIMPLE: return g.from[i] != g.to[i] && isLightestOfItsEnds(g, i);
                case HEAVY: return g.weight[i] >= x;
                default: return true;
            }
        }

        private static boolean isLightestOfItsEnds(Graph g, int i) {
            for (int j = 0; j < g.arcs; j++) {
                boolean before = g.weight[j] < g.weight[i] || (g.weight[j] == g.weight[i] && j < i);
                if (before && g.haveSameEnds(i, j)) {
                    return false;
                }
            }
            return true;
        }

        private boolean drawPart(Graph g, int set) {
            restart(Integer.bitCount(set), g.directed);
            boolean fits = true;
            for (int i = 0; i < g.arcs; i++) {
                int a = g.from[i];
                int b = g.to[i];
                if ((set >> a & set >> b & 1) != 0) {
                    fits = add(rank(set, a), rank(set, b), g.weight[i], g.cost[i]) && fits;
                }
            }
            return fits;
        }

        private static int rank(int set, int v) {
            return Integer.bitCount(set & ((1 << v) - 1));
        }

        private boolean drawSquared(Graph g) {
            restart(g.nodes, g.directed);
            fillLightest(g);
            for (int a = 0; a < nodes; a++) {
                for (int b = directed ? 0 : a; b < nodes; b++) {
                    int sum = lightestOfTwo(a, b);
                    if (sum < NO_WEIGHT && !add(a, b, clamp(sum), 0)) {
                        return false;
                    }
                }
            }
            return true;
        }

        private void fillLightest(Graph g) {
            Arrays.fill(lightest, NO_WEIGHT);
            for (int k = 0; k < g.goings; k++) {
                int place = g.tail[k] * MOST_NODES + g.head[k];
                lightest[place] = Math.min(lightest[place], g.weight[g.by[k]]);
            }
        }

        private int lightestOfTwo(int a, int b) {
            int least = NO_WEIGHT;
            for (int v = 0; v < nodes; v++) {
                int first = lightest[a * MOST_NODES + v];
                int second = lightest[v * MOST_NODES + b];
                if (first < NO_WEIGHT && second < NO_WEIGHT) {
                    least = Math.min(least, first + second);
                }
            }
            return least;
        }

        private static int clamp(int w) {
            return Math.max(-MOST_WEIGHT, Math.min(MOST_WEIGHT, w));
        }

        private boolean drawLines(Graph g) {
            restart(g.arcs, g.directed);
            for (int i = 0; i < g.arcs; i++) {
                for (int j = directed ? 0 : i + 1; j < g.arcs; j++) {
                    boolean meet = directed ? g.to[i] == g.from[j] : g.shareNode(i, j);
                    if (meet && !add(i, j, 0, 0)) {
                        return false;
                    }
                }
            }
            return true;
        }

        void drawBoth(Graph first, Graph second) {
            restart(first.nodes + second.nodes, first.directed);
            for (int i = 0; i < first.arcs; i++) {
                add(first.from[i], first.to[i], first.weight[i], first.cost[i]);
            }
            for (int i = 0; i < second.arcs; i++) {
                add(first.nodes + second.from[i], first.nodes + second.to[i], second.weight[i], second.cost[i]);
            }
        }

        void drawMelted(Graph g, Parts p) {
            restart(p.size, g.directed);
            for (int i = 0; i < g.arcs; i++) {
                int a = p.number[g.from[i]];
                int b = p.number[g.to[i]];
                if (a != b) {
                    add(a, b, g.weight[i], g.cost[i]);
                }
            }
        }
    }

    /** A graph that never changes. A GOING is an arc in one of the directions in which it can be gone. */
    private static final class Graph extends Thing {
        final boolean directed;
        final int arcs;
        final int[] from;
        final int[] to;
        final int[] weight;
        final int[] cost;
        /** Goings stand in the order of their arcs; a loop is one going. */
        final int goings;
        final int[] tail;
        final int[] head;
        final int[] by;
        final int[] out;
        final int[] in;
        /** Neighbours, where directions and loops do not count. */
        final int[] joined;

        Graph(Draft d) {
            super(d.nodes);
            directed = d.directed;
            arcs = d.arcs;
            from = Arrays.copyOf(d.from, arcs);
            to = Arrays.copyOf(d.to, arcs);
            weight = Arrays.copyOf(d.weight, arcs);
            cost = Arrays.copyOf(d.cost, arcs);
            out = new int[nodes];
            in = new int[nodes];
            joined = new int[nodes];
            goings = countGoings(d);
            tail = new int[goings];
            head = new int[goings];
            by = new int[goings];
            fillGoings();
            fillNeighbours();
        }

        private static int countGoings(Draft d) {
            int sum = d.arcs;
            for (int i = 0; i < d.arcs; i++) {
                if (!d.directed && d.from[i] != d.to[i]) {
                    sum++;
                }
            }
            return sum;
        }

        private void fillGoings() {
            int k = 0;
            for (int i = 0; i < arcs; i++) {
                tail[k] = from[i];
                head[k] = to[i];
                by[k] = i;
                k++;
                if (!directed && from[i] != to[i]) {
                    tail[k] = to[i];
                    head[k] = from[i];
                    by[k] = i;
                    k++;
                }
            }
        }

        private void fillNeighbours() {
            for (int k = 0; k < goings; k++) {
                int a = tail[k];
                int b = head[k];
                out[a] |= 1 << b;
                in[b] |= 1 << a;
                if (a != b) {
                    joined[a] |= 1 << b;
                    joined[b] |= 1 << a;
                }
            }
        }

        int sortNumber() {
            return GRAPH_SORT;
        }

        int allNodes() {
            return (1 << nodes) - 1;
        }

        int detail(int what, int k) {
            switch (what) {
                case 0: return nodes;
                case 1: return arcs;
                case 2: return directed ? 1 : 0;
                case 3: return from[k];
                case 4: return to[k];
                case 5: return weight[k];
                default: return cost[k];
            }
        }

        boolean haveSameEnds(int i, int j) {
            return (from[i] == from[j] && to[i] == to[j]) || (!directed && from[i] == to[j] && to[i] == from[j]);
        }

        boolean shareNode(int i, int j) {
            return from[i] == from[j] || from[i] == to[j] || to[i] == from[j] || to[i] == to[j];
        }

        /** Whether another arc joins the same two nodes, where directions do not count. */
        boolean hasTwin(int i) {
            for (int j = 0; j < arcs; j++) {
                boolean along = from[i] == from[j] && to[i] == to[j];
                boolean against = from[i] == to[j] && to[i] == from[j];
                if (j != i && (along || against)) {
                    return true;
                }
            }
            return false;
        }
    }

    /** A number for each node. */
    private static final class Column extends Thing {
        static final int OUT_DEGREES = 0;
        static final int IN_DEGREES = 1;
        static final int WEIGHTS = 2;
        static final int CORE = 3;
        static final int FAR = 4;
        static final int WALKS = 5;

        final long[] numbers;

        /** All zero; whoever makes it fills it before it gets its handle. */
        Column(int nodes) {
            super(nodes);
            numbers = new long[nodes];
        }

        int sortNumber() {
            return COLUMN_SORT;
        }

        long total() {
            long sum = 0;
            for (int v = 0; v < nodes; v++) {
                sum += numbers[v];
            }
            return sum;
        }

        void measure(Graph g, int kind, int x) {
            switch (kind) {
                case OUT_DEGREES:
                case IN_DEGREES:
                    countEnds(g, kind == OUT_DEGREES || !g.directed, kind == IN_DEGREES || !g.directed);
                    break;
                case WEIGHTS:
                    sumWeights(g);
                    break;
                case CORE:
                    peel(g);
                    break;
                case WALKS:
                    countWalks(g, x);
                    break;
                default:
                    for (int v = 0; v < nodes; v++) {
                        numbers[v] = kind == FAR ? Shape.far(g.out, v) : Shape.blocks(g, v);
                    }
                    break;
            }
        }

        private void countEnds(Graph g, boolean tails, boolean heads) {
            for (int i = 0; i < g.arcs; i++) {
                if (tails) {
                    numbers[g.from[i]]++;
                }
                if (heads) {
                    numbers[g.to[i]]++;
                }
            }
        }

        private void sumWeights(Graph g) {
            for (int k = 0; k < g.goings; k++) {
                numbers[g.tail[k]] += g.weight[g.by[k]];
            }
        }

        /** The node with the fewest ends among those left goes; no earlier one had a greater core. */
        private void peel(Graph g) {
            int[] ends = new int[nodes];
            int left = g.allNodes();
            int core = 0;
            for (int round = 0; round < nodes; round++) {
                countEndsWithin(g, left, ends);
                int least = -1;
                for (int v = 0; v < nodes; v++) {
                    if ((left >> v & 1) != 0 && (least < 0 || ends[v] < ends[least])) {
                        least = v;
                    }
                }
                if (least >= 0) {
                    core = Math.max(core, ends[least]);
                    numbers[least] = core;
                    left &= ~(1 << least);
                }
            }
        }

        private static void countEndsWithin(Graph g, int set, int[] ends) {
            Arrays.fill(ends, 0);
            for (int i = 0; i < g.arcs; i++) {
                int a = g.from[i];
                int b = g.to[i];
                if (a != b && (set >> a & set >> b & 1) != 0) {
                    ends[a]++;
                    ends[b]++;
                }
            }
        }

        private void countWalks(Graph g, int length) {
            Arrays.fill(numbers, 1L);
            long[] next = new long[nodes];
            int[] tail = g.tail;
            int[] head = g.head;
            for (int round = 0; round < length; round++) {
                Arrays.fill(next, 0L);
                for (int k = 0; k < tail.length && k < head.length; k++) {
                    next[tail[k]] += numbers[head[k]];
                }
                System.arraycopy(next, 0, numbers, 0, nodes);
            }
        }

        void blend(Column a, Column b, int kind) {
            for (int v = 0; v < nodes; v++) {
                numbers[v] = blendOf(a.numbers[v], b.numbers[v], kind);
            }
        }

        private static long blendOf(long a, long b, int kind) {
            switch (kind) {
                case 0: return a + b;
                case 1: return a - b;
                case 2: return a * b;
                case 3: return Math.min(a, b);
                case 4: return Math.max(a, b);
                case 5: return a ^ b;
                default: return a < b ? 1 : 0;
            }
        }

        /** A program over this column: every round reads the numbers that stood before it. */
        void play(Graph g, int message, int joining, boolean own, int rounds) {
            long[] next = new long[nodes];
            for (int round = 0; round < rounds; round++) {
                System.arraycopy(numbers, 0, next, 0, nodes);
                int got = own ? g.allNodes() : 0;
                for (int k = 0; k < g.goings; k++) {
                    int v = g.head[k];
                    long news = messageOf(numbers[g.tail[k]], g.weight[g.by[k]], message);
                    next[v] = (got >> v & 1) == 0 ? news : joinOf(next[v], news, joining);
                    got |= 1 << v;
                }
                System.arraycopy(next, 0, numbers, 0, nodes);
            }
        }

        private static long messageOf(long number, long weight, int message) {
            switch (message) {
                case 0: return number;
                case 1: return number + weight;
                case 2: return number * weight;
                case 3: return Math.min(number, weight);
                default: return number ^ weight;
            }
        }

        private static long joinOf(long a, long b, int joining) {
            switch (joining) {
                case 0: return Math.min(a, b);
                case 1: return Math.max(a, b);
                case 2: return a + b;
                default: return a ^ b;
            }
        }
    }

    /** The ways from one node to every node. */
    private static final class Ways extends Thing {
        private static final int SHORT = 1;
        private static final int WIDE = 2;
        private static final int THERE = 1;
        private static final int ENDLESS = 2;

        private final int[] state;
        private final long[] worth;
        private final int[] length;
        private final long[] many;
        /** The arcs of the way to v begin at v * nodes; it never has more than nodes - 1. */
        private final int[] rows;

        Ways(Graph g, int kind, int start) {
            super(g.nodes);
            state = new int[nodes];
            worth = new long[nodes];
            length = new int[nodes];
            many = new long[nodes];
            rows = new int[nodes * nodes];
            Arrays.fill(length, -1);
            state[start] = THERE;
            length[start] = 0;
            many[start] = 1;
            if (kind == WIDE) {
                worth[start] = MOST_WEIGHT + 1;
                widenAll(g);
                traceWide(g, start);
            } else {
                lowerAll(g, kind == SHORT);
                markEndless(g, kind == SHORT);
                traceLow(g, kind == SHORT);
            }
        }

        int sortNumber() {
            return WAYS_SORT;
        }

        long detail(int node, int what) {
            switch (what) {
                case 0: return state[node];
                case 1: return worth[node];
                case 2: return length[node];
                default: return many[node];
            }
        }

        int arcOnWay(int node, int k) {
            return k >= 0 && k < length[node] ? rows[node * nodes + k] : -1;
        }

        private static long priceOf(Graph g, boolean each, int k) {
            return each ? 1 : g.weight[g.by[k]];
        }

        /** Whether a going leads to a way of less worth, or of the same with fewer arcs. */
        private boolean lowers(Graph g, boolean each, int k) {
            int a = g.tail[k];
            int b = g.head[k];
            if (state[a] == 0) {
                return false;
            }
            long low = worth[a] + priceOf(g, each, k);
            return state[b] == 0 || low < worth[b] || (low == worth[b] && length[a] + 1 < length[b]);
        }

        private void lowerAll(Graph g, boolean each) {
            boolean changed = true;
            for (int round = 1; round < nodes && changed; round++) {
                changed = false;
                for (int k = 0; k < g.goings; k++) {
                    if (lowers(g, each, k)) {
                        int a = g.tail[k];
                        int b = g.head[k];
                        state[b] = THERE;
                        worth[b] = worth[a] + priceOf(g, each, k);
                        length[b] = length[a] + 1;
                        changed = true;
                    }
                }
            }
        }

        /** What can still be lowered lies on or behind a ring of negative weight. */
        private void markEndless(Graph g, boolean each) {
            int found = 0;
            for (int k = 0; k < g.goings; k++) {
                if (lowers(g, each, k)) {
                    found |= 1 << g.head[k];
                }
            }
            int endless = Shape.reach(g.out, found, g.allNodes());
            for (int v = 0; v < nodes; v++) {
                if ((endless >> v & 1) != 0) {
                    state[v] = ENDLESS;
                    worth[v] = 0;
                    length[v] = -1;
                    many[v] = 0;
                }
            }
        }

        private void traceLow(Graph g, boolean each) {
            for (int level = 1; level < nodes; level++) {
                for (int v = 0; v < nodes; v++) {
                    if (state[v] == THERE && length[v] == level) {
                        traceLowTo(g, each, v);
                    }
                }
            }
        }

        /** Goings stand by their arcs: the first that is on a best way has the least last arc. */
        private void traceLowTo(Graph g, boolean each, int v) {
            boolean found = false;
            int level = length[v];
            for (int k = 0; k < g.goings; k++) {
                int u = g.tail[k];
                boolean best = g.head[k] == v && state[u] == THERE && length[u] == level - 1
                        && worth[u] + priceOf(g, each, k) == worth[v];
                if (best) {
                    many[v] += many[u];
                    if (!found) {
                        System.arraycopy(rows, u * nodes, rows, v * nodes, level - 1);
                        rows[v * nodes + level - 1] = g.by[k];
                        found = true;
                    }
                }
            }
        }

        private void widenAll(Graph g) {
            boolean changed = true;
            for (int round = 0; round < nodes && changed; round++) {
                changed = false;
                for (int k = 0; k < g.goings; k++) {
                    int a = g.tail[k];
                    int b = g.head[k];
                    long wide = Math.min(worth[a], g.weight[g.by[k]]);
                    if (state[a] != 0 && (state[b] == 0 || wide > worth[b])) {
                        state[b] = THERE;
                        worth[b] = wide;
                        changed = true;
                    }
                }
            }
        }

        private void traceWide(Graph g, int start) {
            int[] level = new int[nodes];
            long[] sums = new long[nodes];
            for (int v = 0; v < nodes; v++) {
                if (v != start && state[v] == THERE) {
                    countWide(g, start, v, level, sums);
                    length[v] = level[v];
                    many[v] = sums[v];
                    followBack(g, v, level);
                }
            }
        }

        /** Levels and numbers of ways over arcs that are wide enough for the best way to v. */
        private void countWide(Graph g, int start, int v, int[] level, long[] sums) {
            Arrays.fill(level, -1);
            Arrays.fill(sums, 0L);
            level[start] = 0;
            sums[start] = 1;
            for (int now = 1; now < nodes && level[v] < 0; now++) {
                for (int k = 0; k < g.goings; k++) {
                    int a = g.tail[k];
                    int b = g.head[k];
                    if (level[a] == now - 1 && g.weight[g.by[k]] >= worth[v]) {
                        level[b] = level[b] < 0 ? now : level[b];
                        sums[b] += level[b] == now ? sums[a] : 0;
                    }
                }
            }
        }

        private void followBack(Graph g, int v, int[] level) {
            int here = v;
            for (int place = length[v] - 1; place >= 0; place--) {
                int last = -1;
                for (int k = 0; k < g.goings && last < 0; k++) {
                    boolean wide = g.weight[g.by[k]] >= worth[v];
                    if (g.head[k] == here && wide && level[g.tail[k]] == place) {
                        last = k;
                    }
                }
                if (last >= 0) {
                    rows[v * nodes + place] = g.by[last];
                    here = g.tail[last];
                }
            }
        }
    }

    /** A division of nodes. */
    private static final class Parts extends Thing {
        static final int STRONG = 0;
        static final int WEAK = 1;
        static final int BRIDGED = 2;
        static final int BY_COLUMN = 4;

        final int size;
        final int[] number;
        final int[] nodesOf;

        /** The column is null for all kinds but BY_COLUMN. */
        Parts(Graph g, int kind, Column c) {
            super(g.nodes);
            number = new int[nodes];
            nodesOf = new int[nodes];
            int[] rows = kind == BRIDGED ? Shape.withoutBridges(g) : g.joined;
            int found = 0;
            for (int v = 0; v < nodes; v++) {
                int first = firstOfItsPart(g, kind, rows, c, v);
                if (first < v && first >= 0) {
                    number[v] = number[first];
                } else {
                    number[v] = found;
                    found++;
                }
                nodesOf[number[v]] |= 1 << v;
            }
            size = found;
        }

        int sortNumber() {
            return PARTS_SORT;
        }

        private static int firstOfItsPart(Graph g, int kind, int[] rows, Column c, int v) {
            int all = g.allNodes();
            if (kind == STRONG) {
                return Shape.lowest(Shape.reach(g.out, 1 << v, all) & Shape.reach(g.in, 1 << v, all));
            }
            if (kind == WEAK || kind == BRIDGED) {
                return Shape.lowest(Shape.reach(rows, 1 << v, all));
            }
            for (int u = 0; u < v; u++) {
                if (c == null ? haveSameNeighbours(g, u, v) : haveSameNumber(c, u, v)) {
                    return u;
                }
            }
            return v;
        }

        private static boolean haveSameNeighbours(Graph g, int u, int v) {
            return (g.out[u] & ~(1 << u)) == (g.out[v] & ~(1 << v))
                    && (g.in[u] & ~(1 << u)) == (g.in[v] & ~(1 << v));
        }

        private static boolean haveSameNumber(Column c, int u, int v) {
            return u < c.nodes && v < c.nodes && c.numbers[u] == c.numbers[v];
        }
    }

    /** What hangs together, orders, rings, sides, bridges and trees. */
    private static final class Shape {
        private static final long PRIME = 1000000007L;

        private final long[] table;

        Shape() {
            table = new long[MOST_NODES * MOST_NODES];
        }

        /** The number of the lowest node of a set that is not empty. */
        static int lowest(int set) {
            return Integer.bitCount((set & -set) - 1);
        }

        private static int spread(int[] next, int set) {
            int found = 0;
            for (int v = 0; v < next.length; v++) {
                if ((set >> v & 1) != 0) {
                    found |= next[v];
                }
            }
            return found;
        }

        /** The nodes to which one gets from those of a set without leaving the nodes of another. */
        static int reach(int[] next, int start, int within) {
            int seen = start & within;
            int edge = seen;
            for (int round = 0; round < MOST_NODES && edge != 0; round++) {
                edge = spread(next, edge) & within & ~seen;
                seen |= edge;
            }
            return seen;
        }

        static int far(int[] next, int v) {
            int seen = 1 << v;
            int edge = seen;
            int rounds = 0;
            for (int round = 0; round < MOST_NODES && edge != 0; round++) {
                edge = spread(next, edge) & ~seen;
                seen |= edge;
                rounds += edge == 0 ? 0 : 1;
            }
            return rounds;
        }

        /** The fewest arcs from a set to a node; -1 if one does not get there. */
        private static int distance(int[] next, int start, int goal) {
            int seen = start;
            int edge = start;
            for (int steps = 0; steps <= MOST_NODES && edge != 0; steps++) {
                if ((seen >> goal & 1) != 0) {
                    return steps;
                }
                edge = spread(next, edge) & ~seen;
                seen |= edge;
            }
            return -1;
        }

        static int order(Graph g, int place) {
            if (!g.directed && g.arcs > 0) {
                return -1;
            }
            int placed = 0;
            int answer = -1;
            for (int k = 0; k < g.nodes; k++) {
                int v = firstFree(g, placed);
                if (v < 0) {
                    return -1;
                }
                placed |= 1 << v;
                answer = k == place ? v : answer;
            }
            return answer;
        }

        private static int firstFree(Graph g, int placed) {
            for (int v = 0; v < g.nodes; v++) {
                if ((placed >> v & 1) == 0 && (g.in[v] & ~placed) == 0) {
                    return v;
                }
            }
            return -1;
        }

        static int ring(Graph g) {
            return g.directed ? directedRing(g) : undirectedRing(g);
        }

        private static int directedRing(Graph g) {
            int best = 0;
            for (int v = 0; v < g.nodes; v++) {
                int back = distance(g.out, g.out[v], v);
                if (back >= 0 && (best == 0 || back + 1 < best)) {
                    best = back + 1;
                }
            }
            return best;
        }

        private static int undirectedRing(Graph g) {
            int best = 0;
            int[] rows = g.joined.clone();
            for (int i = 0; i < g.arcs; i++) {
                int size = ringOver(g, rows, i);
                if (size > 0 && (best == 0 || size < best)) {
                    best = size;
                }
            }
            return best;
        }

        /** The least ring that has an arc: back from its end to its beginning without it. */
        private static int ringOver(Graph g, int[] rows, int i) {
            int a = g.from[i];
            int b = g.to[i];
            if (a == b) {
                return 1;
            }
            if (g.hasTwin(i)) {
                return 2;
            }
            cut(rows, a, b);
            int back = distance(rows, 1 << a, b);
            rows[a] |= 1 << b;
            rows[b] |= 1 << a;
            return back + 1;
        }

        private static void cut(int[] rows, int a, int b) {
            rows[a] &= ~(1 << b);
            rows[b] &= ~(1 << a);
        }

        static int side(Graph g, int x) {
            int zero = 0;
            int one = 0;
            for (int v = 0; v < g.nodes; v++) {
                int edge = ((zero | one) >> v & 1) == 0 ? 1 << v : 0;
                for (int round = 0; round < MOST_NODES && edge != 0; round++) {
                    zero |= round % 2 == 0 ? edge : 0;
                    one |= round % 2 == 0 ? 0 : edge;
                    edge = spread(g.joined, edge) & ~zero & ~one;
                }
            }
            for (int i = 0; i < g.arcs; i++) {
                if ((zero >> g.from[i] & 1) == (zero >> g.to[i] & 1)) {
                    return -1;
                }
            }
            return one >> x & 1;
        }

        /** Neighbours without bridges; that one bridge is gone makes no other arc one or none. */
        static int[] withoutBridges(Graph g) {
            int[] rows = g.joined.clone();
            for (int i = 0; i < g.arcs; i++) {
                int a = g.from[i];
                int b = g.to[i];
                if (a != b && !g.hasTwin(i)) {
                    cut(rows, a, b);
                    if (distance(rows, 1 << a, b) >= 0) {
                        rows[a] |= 1 << b;
                        rows[b] |= 1 << a;
                    }
                }
            }
            return rows;
        }

        /** Each block that has v leaves one piece of what hangs together with v when v is taken away. */
        static int blocks(Graph g, int v) {
            int left = reach(g.joined, 1 << v, g.allNodes()) & ~(1 << v);
            int pieces = 0;
            for (int round = 0; round < MOST_NODES && left != 0; round++) {
                left &= ~reach(g.joined, left & -left, left);
                pieces++;
            }
            return pieces;
        }

        static long lightWeight(Graph g) {
            long chosen = lightArcs(g);
            long sum = 0;
            for (int i = 0; i < g.arcs; i++) {
                sum += (chosen >> i & 1L) == 0 ? 0 : g.weight[i];
            }
            return sum;
        }

        /** The arcs by which all hangs together with the least weight, as a set. */
        static long lightArcs(Graph g) {
            int[] label = new int[g.nodes];
            for (int v = 0; v < g.nodes; v++) {
                label[v] = v;
            }
            long looked = 0;
            long chosen = 0;
            for (int round = 0; round < g.arcs; round++) {
                int i = lightestArc(g, looked);
                if (i >= 0) {
                    looked |= 1L << i;
                    chosen |= unite(label, label[g.from[i]], label[g.to[i]]) ? 1L << i : 0;
                }
            }
            return chosen;
        }

        private static int lightestArc(Graph g, long looked) {
            int best = -1;
            for (int i = 0; i < g.arcs; i++) {
                if ((looked >> i & 1L) == 0 && (best < 0 || g.weight[i] < g.weight[best])) {
                    best = i;
                }
            }
            return best;
        }

        private static boolean unite(int[] label, int a, int b) {
            if (a == b) {
                return false;
            }
            for (int v = 0; v < label.length; v++) {
                label[v] = label[v] == b ? a : label[v];
            }
            return true;
        }

        /** By Kirchhoff: the determinant of degrees less joinings, without the last node. */
        long trees(Graph g) {
            int n = g.nodes - 1;
            fillTable(g, n);
            long product = 1;
            for (int k = 0; k < n && product != 0; k++) {
                product = product * pivot(n, k) % PRIME;
            }
            return product;
        }

        private void fillTable(Graph g, int n) {
            Arrays.fill(table, 0L);
            for (int i = 0; i < g.arcs; i++) {
                int a = g.from[i];
                int b = g.to[i];
                if (a != b) {
                    addTo(a, a, n, 1);
                    addTo(b, b, n, 1);
                    addTo(a, b, n, PRIME - 1);
                    addTo(b, a, n, PRIME - 1);
                }
            }
        }

        private void addTo(int a, int b, int n, long what) {
            if (a < n && b < n) {
                int place = a * MOST_NODES + b;
                table[place] = (table[place] + what) % PRIME;
            }
        }

        /** Clears column k below its pivot; answers the pivot with the sign of the exchange. */
        private long pivot(int n, int k) {
            int row = k;
            for (int r = k; r < n && table[row * MOST_NODES + k] == 0; r++) {
                row = r;
            }
            long head = table[row * MOST_NODES + k];
            if (head == 0) {
                return 0;
            }
            if (row != k) {
                exchange(n, row, k);
            }
            long inverse = power(head, PRIME - 2);
            for (int r = k + 1; r < n; r++) {
                long factor = table[r * MOST_NODES + k] * inverse % PRIME;
                for (int c = k; c < n && factor != 0; c++) {
                    long less = factor * table[k * MOST_NODES + c] % PRIME;
                    table[r * MOST_NODES + c] = (table[r * MOST_NODES + c] + PRIME - less) % PRIME;
                }
            }
            return row == k ? head : PRIME - head;
        }

        private void exchange(int n, int a, int b) {
            for (int c = 0; c < n; c++) {
                long kept = table[a * MOST_NODES + c];
                table[a * MOST_NODES + c] = table[b * MOST_NODES + c];
                table[b * MOST_NODES + c] = kept;
            }
        }

        private static long power(long base, long exponent) {
            long result = 1;
            long square = base;
            for (int bit = 0; bit < 31; bit++) {
                if ((exponent >> bit & 1L) != 0) {
                    result = result * square % PRIME;
                }
                square = square * square % PRIME;
            }
            return result;
        }
    }

    /** Greatest sets of joined or unjoined nodes, colours and width: searches over sets of nodes. */
    private static final class Sets {
        /** Which nodes a node is not joined with. */
        private final int[] strangers;
        private final int[] classes;
        /** Neighbours after so many nodes have gone: a row of nodes for each depth. */
        private final int[] levels;
        private final int[] melted;
        /** A bit for each set of nodes that could not go on. */
        private final int[] hopeless;

        Sets() {
            strangers = new int[MOST_NODES];
            classes = new int[MOST_NODES];
            levels = new int[(MOST_NODES + 1) * MOST_NODES];
            melted = new int[MOST_NODES];
            hopeless = new int[(1 << MOST_NODES) / 32];
        }

        int greatestJoined(Graph g) {
            fillStrangers(g);
            return leastOfGreatest(strangers, g.allNodes());
        }

        int greatestApart(Graph g) {
            return leastOfGreatest(g.joined, g.allNodes());
        }

        private void fillStrangers(Graph g) {
            for (int v = 0; v < g.nodes; v++) {
                strangers[v] = g.allNodes() & ~g.joined[v] & ~(1 << v);
            }
        }

        /** The least number is the one that leaves out its high nodes, the highest first. */
        private static int leastOfGreatest(int[] rows, int all) {
            int goal = mostApart(rows, all, 0);
            int chosen = 0;
            int open = all;
            for (int v = rows.length - 1; v >= 0; v--) {
                int bit = 1 << v;
                if ((open & bit) != 0) {
                    if (Integer.bitCount(chosen) + mostApart(rows, open & ~bit, 0) >= goal) {
                        open &= ~bit;
                    } else {
                        chosen |= bit;
                        open &= ~(rows[v] | bit);
                    }
                }
            }
            return chosen;
        }

        /** How many nodes of a set can be taken of which no two are in each other's rows. */
        private static int mostApart(int[] rows, int set, int depth) {
            if (depth > MOST_NODES) {
                return 0;
            }
            int busiest = -1;
            int most = -1;
            for (int v = 0; v < rows.length; v++) {
                if ((set >> v & 1) != 0) {
                    int degree = Integer.bitCount(rows[v] & set);
                    if (degree <= 1) {
                        return 1 + mostApart(rows, set & ~(rows[v] | 1 << v), depth + 1);
                    }
                    busiest = degree > most ? v : busiest;
                    most = Math.max(most, degree);
                }
            }
            if (busiest < 0) {
                return 0;
            }
            int with = 1 + mostApart(rows, set & ~(rows[busiest] | 1 << busiest), depth + 1);
            int without = mostApart(rows, set & ~(1 << busiest), depth + 1);
            return Math.max(with, without);
        }

        int colours(Graph g) {
            fillStrangers(g);
            int least = mostApart(strangers, g.allNodes(), 0);
            for (int most = least; most < g.nodes; most++) {
                Arrays.fill(classes, 0);
                if (canColour(g.joined, hardNodes(g, most), 0, most, 0)) {
                    return most;
                }
            }
            return g.nodes;
        }

        /** A node that is joined with fewer nodes than there are colours finds one at the end. */
        private static int hardNodes(Graph g, int colours) {
            int left = g.allNodes();
            for (int round = 0; round < g.nodes; round++) {
                for (int v = 0; v < g.nodes; v++) {
                    if (Integer.bitCount(g.joined[v] & left) < colours) {
                        left &= ~(1 << v);
                    }
                }
            }
            return left;
        }

        private boolean canColour(int[] rows, int left, int used, int most, int depth) {
            if (left == 0) {
                return true;
            }
            int v = mostBound(rows, left, used);
            if (depth >= MOST_NODES || v < 0) {
                return false;
            }
            for (int c = 0; c <= used && c < most && c < MOST_NODES; c++) {
                if ((classes[c] & rows[v]) == 0) {
                    classes[c] |= 1 << v;
                    if (canColour(rows, left & ~(1 << v), Math.max(used, c + 1), most, depth + 1)) {
                        return true;
                    }
                    classes[c] &= ~(1 << v);
                }
            }
            return false;
        }

        /** The node with the fewest colours left; of several the one with the most neighbours left. */
        private int mostBound(int[] rows, int left, int used) {
            int best = -1;
            int bestScore = -1;
            for (int v = 0; v < rows.length; v++) {
                if ((left >> v & 1) != 0) {
                    int score = Integer.bitCount(rows[v] & left);
                    for (int c = 0; c < used && c < MOST_NODES; c++) {
                        score += (classes[c] & rows[v]) == 0 ? 0 : MOST_NODES;
                    }
                    if (score > bestScore) {
                        best = v;
                        bestScore = score;
                    }
                }
            }
            return best;
        }

        int width(Graph g) {
            int left = g.allNodes();
            int best = 0;
            fillStrangers(g);
            for (int round = 0; round < MOST_NODES && left != 0; round++) {
                int piece = Shape.reach(g.joined, left & -left, left);
                left &= ~piece;
                if (Integer.bitCount(piece) > best + 1) {
                    best = widthOf(g, piece, best);
                }
            }
            return best;
        }

        private int widthOf(Graph g, int piece, int atLeast) {
            System.arraycopy(g.joined, 0, levels, 0, g.nodes);
            int low = Math.max(atLeast, lowWidth(g, piece));
            int last = leastOfGreatest(strangers, piece);
            for (int k = low; k < MOST_NODES; k++) {
                Arrays.fill(hopeless, 0);
                if (canGo(piece, k, last, 0)) {
                    return k;
                }
            }
            return MOST_NODES - 1;
        }

        /** Melting joined nodes never makes a graph wider, and none is less wide than its least degree. */
        private int lowWidth(Graph g, int piece) {
            System.arraycopy(g.joined, 0, melted, 0, g.nodes);
            int left = piece;
            int low = 0;
            for (int round = 0; round < MOST_NODES && Integer.bitCount(left) > low + 1; round++) {
                int v = leastDegree(left);
                low = Math.max(low, Integer.bitCount(melted[v]));
                left &= ~(1 << v);
                meltInto(v, leastShared(v));
            }
            return low;
        }

        private int leastDegree(int left) {
            int best = 0;
            int least = MOST_NODES;
            for (int v = 0; v < MOST_NODES; v++) {
                if ((left >> v & 1) != 0) {
                    int degree = Integer.bitCount(melted[v]);
                    best = degree < least ? v : best;
                    least = Math.min(least, degree);
                }
            }
            return best;
        }

        /** The neighbour of v that has the fewest neighbours in common with it; -1 if v has none. */
        private int leastShared(int v) {
            int best = -1;
            int fewest = MOST_NODES;
            for (int u = 0; u < MOST_NODES; u++) {
                if ((melted[v] >> u & 1) != 0) {
                    int shared = Integer.bitCount(melted[u] & melted[v]);
                    best = shared < fewest ? u : best;
                    fewest = Math.min(fewest, shared);
                }
            }
            return best;
        }

        private void meltInto(int v, int u) {
            if (u < 0) {
                return;
            }
            int around = melted[v] & ~(1 << u);
            melted[u] = (melted[u] | around) & ~(1 << v);
            for (int w = 0; w < MOST_NODES; w++) {
                if ((around >> w & 1) != 0) {
                    melted[w] = (melted[w] | 1 << u) & ~(1 << v);
                }
            }
        }

        /**
         * Whether what is left can go with k neighbours at most each time. Some best order has the
         * nodes of any one clique last, so those of the set last are not tried.
         */
        private boolean canGo(int left, int k, int last, int depth) {
            if (Integer.bitCount(left) <= k + 1) {
                return true;
            }
            if (depth >= MOST_NODES) {
                return false;
            }
            int choice = choices(left, k, last, depth);
            for (int v = 0; v < MOST_NODES; v++) {
                int rest = left & ~(1 << v);
                if ((choice >> v & 1) != 0 && !isHopeless(rest)) {
                    takeOut(v, left, depth);
                    if (canGo(rest, k, last, depth + 1)) {
                        return true;
                    }
                }
            }
            hopeless[left >>> 5 & 2047] |= 1 << (left & 31);
            return false;
        }

        private boolean isHopeless(int left) {
            return (hopeless[left >>> 5 & 2047] >> (left & 31) & 1) != 0;
        }

        /** The nodes to try: one alone, if that can do no harm; none, if there are too many joinings. */
        private int choices(int left, int k, int last, int depth) {
            int found = 0;
            int ends = 0;
            for (int v = 0; v < MOST_NODES; v++) {
                if ((left >> v & 1) != 0) {
                    int degree = Integer.bitCount(levels[depth * MOST_NODES + v]);
                    ends += degree;
                    if (degree <= k) {
                        if (isHarmless(v, depth)) {
                            return 1 << v;
                        }
                        found |= 1 << v;
                    }
                }
            }
            int mostEnds = 2 * k * Integer.bitCount(left) - k * (k + 1);
            return ends > mostEnds ? 0 : found & ~last;
        }

        /** Whether all neighbours of v but one at most are joined with one another. */
        private boolean isHarmless(int v, int depth) {
            int row = depth * MOST_NODES;
            int around = levels[row + v];
            int sum = 0;
            int most = 0;
            for (int u = 0; u < MOST_NODES; u++) {
                if ((around >> u & 1) != 0) {
                    int missing = Integer.bitCount(around & ~levels[row + u]) - 1;
                    sum += missing;
                    most = Math.max(most, missing);
                }
            }
            return sum == 2 * most;
        }

        private void takeOut(int v, int left, int depth) {
            int row = depth * MOST_NODES;
            int next = row + MOST_NODES;
            int around = levels[row + v];
            for (int u = 0; u < MOST_NODES; u++) {
                if ((left >> u & 1) != 0) {
                    boolean near = (around >> u & 1) != 0;
                    levels[next + u] = near ? (levels[row + u] | around) & ~(1 << u) & ~(1 << v) : levels[row + u];
                }
            }
        }
    }

    /** Pairs of joined nodes, by ways on which arcs of pairs and others take turns; rings of odd length melt. */
    private static final class Pairs {
        private final int[] mate;
        private final int[] parent;
        /** The node that stands for the melted ring of a node. */
        private final int[] base;
        private final int[] queue;
        private int waiting;
        private int queued;

        Pairs() {
            mate = new int[MOST_NODES];
            parent = new int[MOST_NODES];
            base = new int[MOST_NODES];
            queue = new int[MOST_NODES];
        }

        int greatest(Graph g) {
            Arrays.fill(mate, -1);
            int found = 0;
            for (int v = 0; v < g.nodes; v++) {
                if (mate[v] < 0) {
                    int end = search(g.joined, v, 0);
                    if (end >= 0) {
                        flip(end);
                        found++;
                    }
                }
            }
            return found;
        }

        /** A node can be missed if its mate finds another one without it. */
        int missed(Graph g) {
            greatest(g);
            int set = 0;
            for (int v = 0; v < g.nodes; v++) {
                int u = mate[v];
                if (u < 0) {
                    set |= 1 << v;
                } else {
                    mate[u] = -1;
                    set |= search(g.joined, u, 1 << v) >= 0 ? 1 << v : 0;
                    mate[u] = v;
                }
            }
            return set;
        }

        /** The end of a way from the root to a node without a mate, but not over those that are gone; or -1. */
        private int search(int[] rows, int root, int gone) {
            Arrays.fill(parent, -1);
            for (int v = 0; v < MOST_NODES; v++) {
                base[v] = v;
            }
            waiting = 0;
            queued = 0;
            enqueue(root);
            for (int i = 0; i < MOST_NODES && i < waiting; i++) {
                int v = queue[i];
                for (int w = 0; w < rows.length; w++) {
                    if (((rows[v] & ~gone) >> w & 1) != 0 && base[v] != base[w] && mate[v] != w) {
                        if (w == root || (mate[w] >= 0 && parent[mate[w]] >= 0)) {
                            meltRing(v, w);
                        } else if (parent[w] < 0) {
                            parent[w] = v;
                            if (mate[w] < 0) {
                                return w;
                            }
                            enqueue(mate[w]);
                        }
                    }
                }
            }
            return -1;
        }

        private void enqueue(int v) {
            if ((queued >> v & 1) == 0 && waiting < MOST_NODES) {
                queued |= 1 << v;
                queue[waiting] = v;
                waiting++;
            }
        }

        private void meltRing(int v, int w) {
            int top = commonBase(v, w);
            if (top < 0) {
                return;
            }
            int ring = turnPath(v, top, w) | turnPath(w, top, v);
            for (int i = 0; i < MOST_NODES; i++) {
                if ((ring >> base[i] & 1) != 0) {
                    base[i] = top;
                    enqueue(i);
                }
            }
        }

        private int commonBase(int a, int b) {
            int seen = 0;
            int v = a;
            for (int i = 0; i < MOST_NODES && v >= 0; i++) {
                v = base[v];
                seen |= 1 << v;
                v = mate[v] < 0 ? -1 : parent[mate[v]];
            }
            v = b;
            for (int i = 0; i < MOST_NODES && v >= 0; i++) {
                v = base[v];
                if ((seen >> v & 1) != 0) {
                    return v;
                }
                v = mate[v] < 0 ? -1 : parent[mate[v]];
            }
            return -1;
        }

        /** The bases on the path from v up to the top; its parents lead round the ring now. */
        private int turnPath(int v, int top, int below) {
            int ring = 0;
            int here = v;
            int child = below;
            for (int i = 0; i < MOST_NODES && here >= 0 && base[here] != top && mate[here] >= 0; i++) {
                int partner = mate[here];
                ring |= 1 << base[here] | 1 << base[partner];
                parent[here] = child;
                child = partner;
                here = parent[partner];
            }
            return ring;
        }

        private void flip(int end) {
            int v = end;
            for (int i = 0; i < MOST_NODES && v >= 0; i++) {
                int u = parent[v];
                int next = u < 0 ? -1 : mate[u];
                if (u >= 0) {
                    mate[v] = u;
                    mate[u] = v;
                }
                v = next;
            }
        }
    }

    /** Flows, what cuts them and what they cost. */
    private static final class Flows {
        /** No flow has more rounds than units; 60 arcs carry 1000 units each. */
        private static final int ROUNDS = MOST_ARCS * MOST_WEIGHT + 1;
        private static final int MOST_LINKS = MOST_ARCS * 4;
        private static final long FAR_OFF = 1L << 40;
        /** More than all arcs together can carry. */
        private static final int NO_LIMIT = 1 << 30;

        /** How much more can go from a node to a node. */
        private final int[] room;
        private final int[] before;
        private final int[] queue;
        private int reached;
        /** For the price each going is a link; the one behind it (its number xor 1) takes back what went. */
        private int links;
        private final int[] linkTail;
        private final int[] linkHead;
        private final int[] linkRoom;
        private final int[] linkCost;
        private final long[] distance;

        Flows() {
            room = new int[MOST_NODES * MOST_NODES];
            before = new int[MOST_NODES];
            queue = new int[MOST_NODES];
            linkTail = new int[MOST_LINKS];
            linkHead = new int[MOST_LINKS];
            linkRoom = new int[MOST_LINKS];
            linkCost = new int[MOST_LINKS];
            distance = new long[MOST_NODES];
        }

        /** The most that goes from x to y; each: by each arc one at most, whatever its weight. */
        long most(Graph g, boolean each, int x, int y) {
            Arrays.fill(room, 0);
            for (int k = 0; k < g.goings; k++) {
                int w = each ? 1 : Math.max(0, g.weight[g.by[k]]);
                room[g.tail[k] * MOST_NODES + g.head[k]] += w;
            }
            long sum = 0;
            for (int round = 0; round < ROUNDS && findPath(g.nodes, x, y); round++) {
                sum += push(x, y);
            }
            return sum;
        }

        int cut(Graph g, int x, int y) {
            most(g, false, x, y);
            return reached;
        }

        private boolean findPath(int n, int x, int y) {
            reached = 1 << x;
            queue[0] = x;
            int waiting = 1;
            for (int i = 0; i < MOST_NODES && i < waiting; i++) {
                int u = queue[i];
                for (int v = 0; v < n; v++) {
                    boolean open = (reached >> v & 1) == 0 && room[u * MOST_NODES + v] > 0;
                    if (open && waiting < MOST_NODES) {
                        reached |= 1 << v;
                        before[v] = u;
                        queue[waiting] = v;
                        waiting++;
                    }
                }
            }
            return (reached >> y & 1) != 0;
        }

        private int push(int x, int y) {
            int amount = NO_LIMIT;
            int v = y;
            for (int i = 0; i < MOST_NODES && v != x; i++) {
                amount = Math.min(amount, room[before[v] * MOST_NODES + v]);
                v = before[v];
            }
            v = y;
            for (int i = 0; i < MOST_NODES && v != x; i++) {
                room[before[v] * MOST_NODES + v] -= amount;
                room[v * MOST_NODES + before[v]] += amount;
                v = before[v];
            }
            return amount;
        }

        /** Along cheapest ways, one after the other, until no more can go. */
        long price(Graph g, int x, int y) {
            links = 0;
            for (int k = 0; k < g.goings; k++) {
                int i = g.by[k];
                if (g.weight[i] > 0 && g.tail[k] != g.head[k]) {
                    addLink(g.tail[k], g.head[k], g.weight[i], Math.max(0, g.cost[i]));
                    addLink(g.head[k], g.tail[k], 0, -Math.max(0, g.cost[i]));
                }
            }
            long sum = 0;
            for (int round = 0; round < ROUNDS && findCheapest(g.nodes, x, y); round++) {
                sum += pushLinks(x, y) * distance[y];
            }
            return sum;
        }

        private void addLink(int tail, int head, int itsRoom, int itsCost) {
            int k = links;
            if (k >= 0 && k < MOST_LINKS) {
                linkTail[k] = tail;
                linkHead[k] = head;
                linkRoom[k] = itsRoom;
                linkCost[k] = itsCost;
                links = k + 1;
            }
        }

        /** Fills distances by cost; before[v] is the link by which the cheapest way comes to v. */
        private boolean findCheapest(int n, int x, int y) {
            Arrays.fill(distance, FAR_OFF);
            distance[x] = 0;
            boolean changed = true;
            for (int round = 0; round < n && changed; round++) {
                changed = false;
                for (int k = 0; k < links; k++) {
                    long far = distance[linkTail[k]] + linkCost[k];
                    if (linkRoom[k] > 0 && distance[linkTail[k]] < FAR_OFF && far < distance[linkHead[k]]) {
                        distance[linkHead[k]] = far;
                        before[linkHead[k]] = k;
                        changed = true;
                    }
                }
            }
            return distance[y] < FAR_OFF;
        }

        private long pushLinks(int x, int y) {
            int amount = NO_LIMIT;
            int v = y;
            for (int i = 0; i < MOST_NODES && v != x; i++) {
                amount = Math.min(amount, linkRoom[before[v]]);
                v = linkTail[before[v]];
            }
            v = y;
            for (int i = 0; i < MOST_NODES && v != x; i++) {
                int k = before[v];
                linkRoom[k] -= amount;
                linkRoom[k ^ 1] += amount;
                v = linkTail[k];
            }
            return amount;
        }
    }

    /**
     * Whether two graphs are the same but for the numbers of their nodes. Nodes get colours that
     * do not depend on numbers: nodes of different colours never stand for each other, while for
     * those of one colour the arcs themselves decide at the end.
     */
    private static final class Sameness {
        private static final int BOTH = 2 * MOST_NODES;
        private static final long ODD = 0x9E3779B97F4A7C15L;

        /** What is between two nodes of the first, then of the second graph; 0 if there is nothing. */
        private final long[] ties;
        /** For each depth the colours of the nodes of the first, then of the second graph. */
        private final long[] colours;
        private final long[] fresh;
        private final int[] numbering;

        Sameness() {
            ties = new long[2 * MOST_NODES * MOST_NODES];
            colours = new long[(MOST_NODES + 1) * BOTH];
            fresh = new long[BOTH];
            numbering = new int[MOST_NODES];
        }

        int newNumber(int node) {
            return numbering[node];
        }

        boolean find(Graph a, Graph b) {
            if (a.nodes != b.nodes || a.directed != b.directed || a.arcs != b.arcs) {
                return false;
            }
            Arrays.fill(ties, 0L);
            fillTies(a, 0);
            fillTies(b, MOST_NODES * MOST_NODES);
            startColours(a.nodes);
            return refine(a.nodes, 0) && canNumber(a, b, 0, 0);
        }

        private static long scramble(long x) {
            long y = (x ^ x >>> 31) * ODD;
            y = (y ^ y >>> 29) * ODD;
            return y ^ y >>> 32;
        }

        /** Directed arcs count differently at their two ends, so that a tie tells its direction. */
        private void fillTies(Graph g, int first) {
            for (int i = 0; i < g.arcs; i++) {
                long kind = scramble(g.weight[i] * 4096L + g.cost[i] + 1);
                int along = first + g.from[i] * MOST_NODES + g.to[i];
                int against = first + g.to[i] * MOST_NODES + g.from[i];
                ties[along] += kind;
                if (along != against) {
                    ties[against] += g.directed ? scramble(kind) : kind;
                }
            }
        }

        private void startColours(int n) {
            for (int v = 0; v < n; v++) {
                int loop = v * MOST_NODES + v;
                colours[v] = scramble(ties[loop]);
                colours[MOST_NODES + v] = scramble(ties[MOST_NODES * MOST_NODES + loop]);
            }
        }

        /** Colours by the colours around until they divide no more; whether both graphs have the same ones. */
        private boolean refine(int n, int depth) {
            int row = depth * BOTH;
            int before = 0;
            int now = countColours(row, n);
            for (int round = 0; round < n && now > before && now < n; round++) {
                recolour(row, 0, n);
                recolour(row, MOST_NODES, n);
                System.arraycopy(fresh, 0, colours, row, BOTH);
                before = now;
                now = countColours(row, n);
            }
            return haveSameColours(row, n);
        }

        private int countColours(int row, int n) {
            int found = 0;
            for (int v = 0; v < n; v++) {
                boolean first = true;
                for (int u = 0; u < v && first; u++) {
                    first = colours[row + u] != colours[row + v];
                }
                found += first ? 1 : 0;
            }
            return found;
        }

        private void recolour(int row, int side, int n) {
            for (int v = 0; v < n; v++) {
                int line = (side + v) * MOST_NODES;
                long sum = 3 * colours[row + side + v];
                for (int u = 0; u < n; u++) {
                    if (ties[line + u] != 0) {
                        sum += scramble(ties[line + u] + colours[row + side + u]);
                    }
                }
                fresh[side + v] = scramble(sum);
            }
        }

        private boolean haveSameColours(int row, int n) {
            int taken = 0;
            for (int v = 0; v < n; v++) {
                int u = firstLike(row, colours[row + v], taken, n);
                if (u < 0) {
                    return false;
                }
                taken |= 1 << u;
            }
            return true;
        }

        /** The first node of the second graph with a colour that is not among those taken; or -1. */
        private int firstLike(int row, long colour, int taken, int n) {
            for (int u = 0; u < n; u++) {
                if ((taken >> u & 1) == 0 && colours[row + MOST_NODES + u] == colour) {
                    return u;
                }
            }
            return -1;
        }

        /** Nodes by their order get the least number that lets the others find theirs. */
        private boolean canNumber(Graph a, Graph b, int v, int depth) {
            int n = a.nodes;
            if (v >= n) {
                return haveSameArcs(a, b);
            }
            int row = depth * BOTH;
            long colour = colours[row + v];
            int tried = 0;
            for (int round = 0; round < n; round++) {
                int u = firstLike(row, colour, tried, n);
                if (u < 0) {
                    return false;
                }
                boolean alone = tried == 0 && firstLike(row, colour, 1 << u, n) < 0;
                tried |= 1 << u;
                numbering[v] = u;
                if (alone) {
                    return canNumber(a, b, v + 1, depth);
                }
                if (depth < MOST_NODES && markPair(n, v, u, depth) && canNumber(a, b, v + 1, depth + 1)) {
                    return true;
                }
            }
            return false;
        }

        /** Gives a node and the one that it stands for a colour of their own, one row deeper. */
        private boolean markPair(int n, int v, int u, int depth) {
            int row = depth * BOTH;
            System.arraycopy(colours, row, colours, row + BOTH, BOTH);
            long own = scramble(colours[row + v] + v + 1);
            colours[row + BOTH + v] = own;
            colours[row + BOTH + MOST_NODES + u] = own;
            return refine(n, depth + 1);
        }

        private boolean haveSameArcs(Graph a, Graph b) {
            int numbers = 0;
            for (int v = 0; v < a.nodes; v++) {
                numbers |= 1 << numbering[v];
            }
            if (numbers != a.allNodes()) {
                return false;
            }
            long used = 0;
            for (int i = 0; i < a.arcs; i++) {
                int j = sameArc(a, b, i, used);
                if (j < 0) {
                    return false;
                }
                used |= 1L << j;
            }
            return true;
        }

        /** The first arc of the second graph, but for those used, that arc i of the first becomes; or -1. */
        private int sameArc(Graph a, Graph b, int i, long used) {
            int tail = numbering[a.from[i]];
            int head = numbering[a.to[i]];
            for (int j = 0; j < b.arcs; j++) {
                boolean along = b.from[j] == tail && b.to[j] == head;
                boolean against = !b.directed && b.from[j] == head && b.to[j] == tail;
                boolean equal = b.weight[j] == a.weight[i] && b.cost[j] == a.cost[i];
                if ((used >> j & 1L) == 0 && equal && (along || against)) {
                    return j;
                }
            }
            return -1;
        }
    }
}
