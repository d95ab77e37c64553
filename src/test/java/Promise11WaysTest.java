/** Promise 11, ways: WAYS: their handle, or what is refused (-3: also no such kind, node). */
public final class Promise11WaysTest {
    public static void main(String[] args) {
        kinds();
        nodes();
        handlesFirst();
        noRoom();
        wayOfNoArc();
        nowhere();
        least();
        leastBelowZero();
        endless();
        endlessOfSeveralRings();
        endlessStart();
        endlessBesideAndBefore();
        ringsOfZero();
        endlessNotDirected();
        shortest();
        wide();
        wideBelowZero();
        wideNeedNotFollow();
        fewestArcs();
        lastArcLeast();
        lastArcOnlyThenTheOneBefore();
        manyOfBestAndFewest();
        manyAtMost();
        longest();
        graphMayGo();
        Check.end();
    }

    private static int[] a(int... numbers) {
        return numbers;
    }

    private static void kinds() {
        Check.test("Promise 11: -3, no such kind");
        GraphEngine x = new GraphEngine();
        int g = Make.graph(x, 2, true);
        for (int kind : new int[] {-1, 3, 4, Integer.MIN_VALUE, Integer.MAX_VALUE}) {
            Check.refused(x, "kind " + kind, x.ways(g, kind, 0), -3);
        }
        for (int kind = 0; kind <= 2; kind++) {
            Check.fine(x, "kind " + kind, x.ways(g, kind, 0), kind + 1);
            Check.fine(x, "its sort", x.sort(kind + 1), 3);
        }
    }

    private static void nodes() {
        Check.test("Promise 11: -3, no such node");
        GraphEngine x = new GraphEngine();
        int g = Make.graph(x, 3, true);
        for (int from : new int[] {-1, 3, 4, 16, Integer.MIN_VALUE, Integer.MAX_VALUE}) {
            Check.refused(x, "from " + from, x.ways(g, 0, from), -3);
        }
        Check.fine(x, "from the last", x.ways(g, 0, 2), 1);
        int big = Make.graph(x, 16, true);
        Check.refused(x, "from 16 of 16", x.ways(big, 2, 16), -3);
        Check.fine(x, "from 15 of 16", x.ways(big, 2, 15), 3);
    }

    private static void handlesFirst() {
        Check.test("Promise 11: -1, then -2, then -3");
        GraphEngine x = new GraphEngine();
        int g = Make.graph(x, 2, true);
        int c = x.column(g, 0, 0);
        int w = x.ways(g, 0, 0);
        int p = x.parts(g, 0, 0);
        for (int none : new int[] {-1, 4, 120, Integer.MIN_VALUE, Integer.MAX_VALUE}) {
            Check.refused(x, "no handle " + none, x.ways(none, 0, 0), -1);
            Check.refused(x, "no handle, no kind, no node " + none, x.ways(none, 3, 2), -1);
        }
        for (int other : new int[] {c, w, p}) {
            Check.refused(x, "of another sort " + other, x.ways(other, 0, 0), -2);
            Check.refused(x, "of another sort, no kind, no node " + other, x.ways(other, 3, 2), -2);
        }
        Check.fine(x, "nothing is made", x.handles(), 4);
    }

    private static void noRoom() {
        Check.test("Promise 11: -4 where all handles are taken, behind all else");
        GraphEngine x = new GraphEngine();
        int g = x.graph();
        Make.fillHandles(x);
        for (int kind = 0; kind <= 2; kind++) {
            Check.refused(x, "kind " + kind, x.ways(g, kind, 0), -4);
        }
        Check.refused(x, "no handle", x.ways(120, 0, 0), -1);
        Check.refused(x, "of another sort", x.ways(119, 0, 0), -2);
        Check.refused(x, "no kind", x.ways(g, 3, 0), -3);
        Check.refused(x, "no node", x.ways(g, 0, 1), -3);
        x.drop();
        Check.fine(x, "behind drop()", x.ways(g, 0, 0), 119);
    }

    private static void wayOfNoArc() {
        Check.test("Promise 11, Terms 4: the way of no arc; WIDE, of none: 1001");
        GraphEngine x = new GraphEngine();
        int g = Make.graph(x, 2, true, a(0, 1, 5), a(1, 0, 5), a(0, 0, 7), a(1, 1, 0));
        long[] worth = {0, 0, 1001};
        for (int kind = 0; kind <= 2; kind++) {
            for (int v = 0; v < 2; v++) {
                Expect.way(x, "kind " + kind, x.ways(g, kind, v), v, worth[kind], 1);
            }
        }
        int best = Make.graph(x, 1, false, a(0, 0, 1000));
        Expect.way(x, "a loop of 1000 is less wide than no arc", x.ways(best, 2, 0), 0, 1001, 1);
        int zero = Make.graph(x, 1, false, a(0, 0, 0));
        Expect.way(x, "a loop of 0 is not needed", x.ways(zero, 0, 0), 0, 0, 1);
    }

    private static void nowhere() {
        Check.test("Promise 11, Terms 4: a node to which no way leads");
        GraphEngine x = new GraphEngine();
        int g = Make.graph(x, 3, true, a(1, 0, 5), a(2, 2, -1), a(2, 0, 4));
        for (int kind = 0; kind <= 2; kind++) {
            int w = x.ways(g, kind, 0);
            Expect.noWay(x, "kind " + kind, w, 1);
            Expect.noWay(x, "kind " + kind, w, 2);
        }
    }

    private static void least() {
        Check.test("Promise 11, Terms 4: LEAST, the sum of weights, the least");
        GraphEngine x = new GraphEngine();
        int g = Make.graph(x, 5, true, a(0, 1, 4), a(0, 2, 1), a(2, 1, 2), a(1, 3, 5), a(2, 3, 9), a(0, 1, 4));
        int w = x.ways(g, 0, 0);
        Expect.way(x, "over another node", w, 1, 3, 1, 1, 2);
        Expect.way(x, "at once", w, 2, 1, 1, 1);
        Expect.way(x, "over two", w, 3, 8, 1, 1, 2, 3);
        Expect.noWay(x, "apart", w, 4);
    }

    private static void leastBelowZero() {
        Check.test("Promise 11, Terms 4: LEAST, weights below 0");
        GraphEngine x = new GraphEngine();
        int g = Make.graph(x, 4, true, a(0, 1, 1000), a(1, 2, -1000), a(2, 3, -1000), a(0, 3, -900), a(0, 2, 1));
        int w = x.ways(g, 0, 0);
        Expect.way(x, "up", w, 1, 1000, 1, 0);
        Expect.way(x, "down", w, 2, 0, 1, 0, 1);
        Expect.way(x, "further down", w, 3, -1000, 1, 0, 1, 2);
        x.begin(16, true);
        for (int v = 0; v < 15; v++) x.arc(v, v + 1, -1000, 0);
        Check.fine(x, "the least worth there is", x.way(x.ways(x.graph(), 0, 0), 15, 1), -15000);
    }

    private static void endless() {
        Check.test("Promise 11, Terms 4: ENDLESS, ways with ever less");
        GraphEngine x = new GraphEngine();
        int g = Make.graph(x, 5, true, a(0, 1, 1), a(1, 2, -2), a(2, 1, 1), a(2, 3, 1000), a(3, 4, 1000));
        int w = x.ways(g, 0, 0);
        Expect.way(x, "before it", w, 0, 0, 1);
        Expect.endless(x, "on the ring", w, 1);
        Expect.endless(x, "on the ring", w, 2);
        Expect.endless(x, "behind it", w, 3);
        Expect.endless(x, "further behind it", w, 4);
        for (int kind = 1; kind <= 2; kind++) {
            Check.fine(x, "kind " + kind + " has none", x.way(x.ways(g, kind, 0), 2, 0), 1);
        }
    }

    private static void endlessOfSeveralRings() {
        Check.test("Promise 11, Terms 4: ENDLESS by each of several rings");
        GraphEngine x = new GraphEngine();
        int g = Make.graph(x, 5, true, a(0, 1, 5), a(1, 1, -1), a(0, 2, 5), a(2, 3, -4), a(3, 2, 3), a(0, 4, 9));
        int w = x.ways(g, 0, 0);
        Expect.endless(x, "the first ring", w, 1);
        Expect.endless(x, "the second ring", w, 2);
        Expect.endless(x, "the second ring", w, 3);
        Expect.way(x, "beside both", w, 4, 9, 1, 5);
        int h = Make.graph(x, 5, true, a(2, 2, -1), a(1, 1, -1), a(0, 2, 5), a(0, 1, 5), a(1, 3, 5), a(2, 4, 5));
        int u = x.ways(h, 0, 0);
        for (int v = 1; v < 5; v++) {
            Expect.endless(x, "behind one ring or the other", u, v);
        }
    }

    private static void endlessStart() {
        Check.test("Promise 11, Terms 4: ENDLESS, the node itself from which ways begin");
        GraphEngine x = new GraphEngine();
        int loop = Make.graph(x, 2, true, a(0, 0, -1), a(0, 1, 5));
        int w = x.ways(loop, 0, 0);
        Expect.endless(x, "a loop below 0", w, 0);
        Expect.endless(x, "behind it", w, 1);
        int ring = Make.graph(x, 16, true, a(0, 15, -1), a(15, 0, 0));
        int r = x.ways(ring, 0, 0);
        Expect.endless(x, "a ring below 0", r, 0);
        Expect.endless(x, "a ring below 0", r, 15);
        int one = Make.graph(x, 1, false, a(0, 0, -1000));
        Expect.endless(x, "all there is", x.ways(one, 0, 0), 0);
        x.begin(16, true);
        for (int v = 0; v < 16; v++) x.arc(v, (v + 1) % 16, v == 0 ? -16 : 1, 0);
        int long16 = x.ways(x.graph(), 0, 0);
        Expect.endless(x, "a ring of 16 with sum -1", long16, 0);
        Expect.endless(x, "a ring of 16 with sum -1", long16, 15);
    }

    private static void endlessBesideAndBefore() {
        Check.test("Promise 11, Terms 4: what is beside or before a ring below 0 is not ENDLESS");
        GraphEngine x = new GraphEngine();
        int g = Make.graph(x, 5, true, a(0, 1, 3), a(1, 2, 1), a(2, 2, -1), a(0, 3, 7), a(4, 4, -1), a(4, 3, -9));
        int w = x.ways(g, 0, 0);
        Expect.way(x, "before", w, 1, 3, 1, 0);
        Expect.endless(x, "on it", w, 2);
        Expect.way(x, "beside", w, 3, 7, 1, 3);
        Expect.noWay(x, "a ring to which one does not get", w, 4);
    }

    private static void ringsOfZero() {
        Check.test("Promise 11, Terms 4: a ring of just 0 makes nothing ENDLESS");
        GraphEngine x = new GraphEngine();
        int g = Make.graph(x, 3, true, a(0, 1, -3), a(1, 0, 3), a(1, 2, 0), a(2, 1, 0), a(2, 2, 0));
        int w = x.ways(g, 0, 0);
        Expect.way(x, "the start", w, 0, 0, 1);
        Expect.way(x, "on the ring", w, 1, -3, 1, 0);
        Expect.way(x, "behind it", w, 2, -3, 1, 0, 2);
        int u = Make.graph(x, 3, false, a(0, 1, 0), a(1, 2, 0), a(2, 0, 0));
        Expect.way(x, "weights of 0, not directed", x.ways(u, 0, 1), 0, 0, 1, 0);
    }

    private static void endlessNotDirected() {
        Check.test("Promise 11, Terms 2, 4: an arc below 0 that can be gone both ways makes ENDLESS");
        GraphEngine x = new GraphEngine();
        int g = Make.graph(x, 5, false, a(0, 1, 5), a(1, 2, -1), a(3, 4, 2), a(4, 4, 0));
        int w = x.ways(g, 0, 0);
        Expect.endless(x, "there and back", w, 0);
        Expect.endless(x, "there and back", w, 1);
        Expect.endless(x, "there and back", w, 2);
        Expect.noWay(x, "apart", w, 3);
        Expect.way(x, "apart", x.ways(g, 0, 3), 4, 2, 1, 2);
    }

    private static void shortest() {
        Check.test("Promise 11, Terms 4: SHORT, the number of arcs, the least");
        GraphEngine x = new GraphEngine();
        int g = Make.graph(x, 5, true, a(0, 1, -9), a(1, 0, -9), a(2, 3, 0), a(1, 3, 0), a(0, 2, 9), a(0, 2, 1), a(3, 3, 0));
        int w = x.ways(g, 1, 0);
        Expect.way(x, "one", w, 1, 1, 1, 0);
        Expect.way(x, "one of two", w, 2, 1, 2, 4);
        Expect.way(x, "two", w, 3, 2, 3, 4, 2);
        Expect.noWay(x, "apart", w, 4);
        int u = x.ways(x.view(g, 1, 0), 1, 3);
        Expect.way(x, "not directed", u, 0, 2, 4, 3, 0);
        Expect.way(x, "not directed", u, 2, 1, 1, 2);
    }

    private static void wide() {
        Check.test("Promise 11, Terms 4: WIDE, the least weight on it, the greatest");
        GraphEngine x = new GraphEngine();
        int g = Make.graph(x, 5, true, a(0, 1, 3), a(0, 2, 7), a(2, 1, 5), a(1, 3, 9), a(0, 3, -1000), a(3, 0, 1000));
        int w = x.ways(g, 2, 0);
        Expect.way(x, "two arcs", w, 1, 5, 1, 1, 2);
        Expect.way(x, "one arc", w, 2, 7, 1, 1);
        Expect.way(x, "three arcs", w, 3, 5, 1, 1, 2, 3);
        Expect.noWay(x, "apart", w, 4);
    }

    private static void wideBelowZero() {
        Check.test("Promise 11, Terms 4: WIDE, weights of 0 and below are ways as well");
        GraphEngine x = new GraphEngine();
        int g = Make.graph(x, 4, true, a(0, 1, -1000), a(0, 2, 0), a(2, 3, -5), a(0, 3, -6), a(0, 1, -1000));
        int w = x.ways(g, 2, 0);
        Expect.way(x, "the least weight", w, 1, -1000, 2, 0);
        Expect.way(x, "0", w, 2, 0, 1, 1);
        Expect.way(x, "the greater of two below 0", w, 3, -5, 1, 1, 2);
    }

    private static void wideNeedNotFollow() {
        Check.test("Promise 11, Terms 4: WIDE, the way need not follow the widest ways of nodes before");
        GraphEngine x = new GraphEngine();
        int g = Make.graph(x, 5, false, a(0, 1, 9), a(1, 2, 9), a(0, 2, 4), a(2, 3, 4), a(0, 4, 4), a(4, 3, 5));
        int w = x.ways(g, 2, 0);
        Expect.way(x, "the widest", w, 2, 9, 1, 0, 1);
        Expect.way(x, "the fewest arcs of the widest", w, 3, 4, 2, 2, 3);
        Expect.way(x, "one arc, though wider ones lead on", w, 4, 4, 1, 4);
    }

    private static void fewestArcs() {
        Check.test("Promise 11, Terms 4: THE way is that with the fewest arcs of the best worth");
        GraphEngine x = new GraphEngine();
        int g = Make.graph(x, 4, true, a(0, 1, 2), a(1, 2, 2), a(2, 3, 2), a(1, 3, 4), a(0, 3, 6), a(0, 2, 4));
        int least = x.ways(g, 0, 0);
        Expect.way(x, "least", least, 3, 6, 1, 4);
        Expect.way(x, "least", least, 2, 4, 1, 5);
        int h = Make.graph(x, 4, true, a(0, 1, 5), a(1, 2, 6), a(2, 3, 7), a(1, 3, 5), a(0, 3, 4));
        Expect.way(x, "wide", x.ways(h, 2, 0), 3, 5, 1, 0, 3);
    }

    /** Two ways of the same worth and number of arcs, that with the greater first arc ends with the least one. */
    private static void lastArcLeast() {
        Check.test("Promise 11, Terms 4: of these the one whose last arc is the least");
        GraphEngine x = new GraphEngine();
        int[][] rows = {a(2, 4, 1), a(0, 1, 1), a(0, 2, 1), a(1, 3, 1), a(3, 4, 1), a(1, 4, 1)};
        int g = Make.graph(x, 5, true, rows);
        int u = Make.graph(x, 5, false, rows);
        for (int kind = 0; kind <= 2; kind++) {
            long worth = kind == 2 ? 1 : 2;
            Expect.way(x, "kind " + kind, x.ways(g, kind, 0), 4, worth, 2, 2, 0);
            Expect.way(x, "not directed, kind " + kind, x.ways(u, kind, 0), 4, worth, 2, 2, 0);
        }
    }

    /** All ways end with arc 0; the one before it decides, not the first. */
    private static void lastArcOnlyThenTheOneBefore() {
        Check.test("Promise 11, Terms 4: and so on from the end");
        GraphEngine x = new GraphEngine();
        int[][] rows = {a(4, 5, 1), a(0, 1, 1), a(3, 4, 1), a(1, 2, 1), a(2, 4, 1), a(0, 6, 1), a(6, 3, 1)};
        int g = Make.graph(x, 7, true, rows);
        for (int kind = 0; kind <= 2; kind++) {
            long worth = kind == 2 ? 1 : 4;
            Expect.way(x, "kind " + kind, x.ways(g, kind, 0), 5, worth, 2, 5, 6, 2, 0);
        }
        int twin = Make.graph(x, 3, true, a(1, 2, 1), a(0, 1, 1), a(0, 1, 1), a(1, 2, 1));
        for (int kind = 0; kind <= 2; kind++) {
            Expect.way(x, "twins, kind " + kind, x.ways(twin, kind, 0), 2, kind == 2 ? 1 : 2, 4, 1, 0);
        }
    }

    private static void manyOfBestAndFewest() {
        Check.test("Promise 11, Terms 4: MANY counts ways of the best worth with just so few arcs");
        GraphEngine x = new GraphEngine();
        int g = Make.graph(x, 5, true, a(0, 1, 4), a(0, 1, 4), a(0, 2, 1), a(2, 1, 3), a(1, 3, 5), a(2, 3, 8), a(0, 1, 5));
        int least = x.ways(g, 0, 0);
        Expect.way(x, "one arc: two ways, not three", least, 1, 4, 2, 0);
        Expect.way(x, "two arcs: three ways, not four", least, 3, 9, 3, 0, 4);
        Expect.way(x, "short", x.ways(g, 1, 0), 1, 1, 3, 0);
        Expect.way(x, "wide", x.ways(g, 2, 0), 1, 5, 1, 6);
        Expect.way(x, "wide, two arcs", x.ways(g, 2, 0), 3, 5, 1, 6, 4);
    }

    private static void manyAtMost() {
        Check.test("Promise 11, Terms 4: MANY, by four arcs from each node to the next");
        GraphEngine x = new GraphEngine();
        x.begin(16, true);
        for (int i = 0; i < 60; i++) x.arc(i / 4, i / 4 + 1, 5, 0);
        int g = x.graph();
        for (int kind = 0; kind <= 2; kind++) {
            Check.fine(x, "kind " + kind, x.way(x.ways(g, kind, 0), 15, 3), 1L << 30);
        }
    }

    private static void longest() {
        Check.test("Promise 11, Terms 4: the longest way has 15 arcs");
        GraphEngine x = new GraphEngine();
        x.begin(16, true);
        for (int v = 15; v > 0; v--) x.arc(v, v - 1, v, 0);
        int g = x.graph();
        int[] arcs = new int[15];
        for (int i = 0; i < 15; i++) arcs[i] = i;
        long[] worth = {120, 15, 1};
        for (int kind = 0; kind <= 2; kind++) {
            Expect.way(x, "kind " + kind, x.ways(g, kind, 15), 0, worth[kind], 1, arcs);
        }
    }

    private static void graphMayGo() {
        Check.test("Promise 11, Terms 1: what has a handle never changes: ways");
        GraphEngine x = new GraphEngine();
        int g = Make.graph(x, 3, true, a(0, 1, 5), a(1, 2, 6));
        int w = x.ways(g, 0, 0);
        x.arc(0, 2, 1, 1);
        x.graph();
        x.begin(1, false);
        Expect.way(x, "as before", w, 2, 11, 1, 0, 1);
    }
}
