/** Promise 7, column: a column of a graph (kind 0 .. 6; x counts for 5): its handle, or what is refused. */
public final class Promise07ColumnTest {
    public static void main(String[] args) {
        kinds();
        xDoesNotCount();
        handlesFirst();
        noRoom();
        leastGraph();
        outDegrees();
        inDegrees();
        ends();
        weights();
        weightsNotDirected();
        cores();
        coresWithoutLoops();
        coresOfSeveralArcs();
        far();
        farOverBranches();
        farWhereOneGetsNowhere();
        walksOfNone();
        walks();
        walksNotDirected();
        walksBounds();
        walksWrap();
        blocks();
        blocksOfTwo();
        blocksOfNone();
        Check.end();
    }

    private static int[] a(int... numbers) {
        return numbers;
    }

    private static void kinds() {
        Check.test("Promise 7: kinds are 0 .. 6");
        GraphEngine x = new GraphEngine();
        int g = Make.graph(x, 2, true);
        for (int kind : new int[] {-1, 7, 8, Integer.MIN_VALUE, Integer.MAX_VALUE}) {
            Check.refused(x, "kind " + kind, x.column(g, kind, 0), -3);
        }
        for (int kind = 0; kind <= 6; kind++) {
            Check.fine(x, "kind " + kind, x.column(g, kind, 0), kind + 1);
        }
        Check.fine(x, "what was refused made nothing", x.handles(), 8);
    }

    private static void xDoesNotCount() {
        Check.test("Promise 7: x counts for 5 alone");
        GraphEngine x = new GraphEngine();
        int g = Make.graph(x, 2, true, a(0, 1, 5));
        long[] first = {1, 0, 5, 1, 1, 0, 1};
        int handle = g + 1;
        for (int kind : new int[] {0, 1, 2, 3, 4, 6}) {
            for (int number : new int[] {-1, 1001, Integer.MIN_VALUE, Integer.MAX_VALUE}) {
                Check.fine(x, "kind " + kind + ", x " + number, x.column(g, kind, number), handle);
                Check.fine(x, "its first number", x.at(handle, 0), first[kind]);
                handle++;
            }
        }
    }

    private static void handlesFirst() {
        Check.test("Promise 7: -1, then -2, then -3");
        GraphEngine x = new GraphEngine();
        int g = Make.graph(x, 2, true);
        int c = x.column(g, 0, 0);
        int w = x.ways(g, 0, 0);
        int p = x.parts(g, 0, 0);
        for (int none : new int[] {-1, 4, 120, Integer.MIN_VALUE, Integer.MAX_VALUE}) {
            Check.refused(x, "no handle " + none, x.column(none, 0, 0), -1);
            Check.refused(x, "no handle and no kind " + none, x.column(none, 7, 0), -1);
            Check.refused(x, "no handle and too long walks " + none, x.column(none, 5, 1001), -1);
        }
        for (int other : new int[] {c, w, p}) {
            Check.refused(x, "of another sort " + other, x.column(other, 0, 0), -2);
            Check.refused(x, "of another sort and no kind " + other, x.column(other, 7, 0), -2);
            Check.refused(x, "of another sort and too long walks " + other, x.column(other, 5, 1001), -2);
        }
    }

    private static void noRoom() {
        Check.test("Promise 7: -4 where all handles are taken, behind all else");
        GraphEngine x = new GraphEngine();
        int g = Make.graph(x, 2, true);
        Make.fillHandles(x);
        for (int kind = 0; kind <= 6; kind++) {
            Check.refused(x, "kind " + kind, x.column(g, kind, 0), -4);
        }
        Check.refused(x, "no handle", x.column(120, 0, 0), -1);
        Check.refused(x, "of another sort", x.column(119, 0, 0), -2);
        Check.refused(x, "no kind", x.column(g, 7, 0), -3);
        Check.refused(x, "walks of -1", x.column(g, 5, -1), -3);
        x.drop();
        Check.fine(x, "behind drop()", x.column(g, 0, 0), 119);
    }

    private static void leastGraph() {
        Check.test("Promise 7: columns of one node without arcs");
        GraphEngine x = new GraphEngine();
        int g = x.graph();
        long[] want = {0, 0, 0, 0, 0, 0, 0};
        for (int kind = 0; kind <= 6; kind++) {
            Expect.column(x, "kind " + kind, x.column(g, kind, 1), want[kind]);
        }
        Expect.column(x, "walks of no arc", x.column(g, 5, 0), 1);
    }

    private static void outDegrees() {
        Check.test("Promise 7, Terms 3: OUT degrees");
        GraphEngine x = new GraphEngine();
        int g = Make.graph(x, 4, true, a(0, 1), a(0, 2), a(2, 0), a(2, 2), a(0, 1));
        Expect.column(x, "a loop of a directed graph goes out once", x.column(g, 0, 0), 3, 0, 2, 0);
    }

    private static void inDegrees() {
        Check.test("Promise 7, Terms 3: IN degrees");
        GraphEngine x = new GraphEngine();
        int g = Make.graph(x, 4, true, a(0, 1), a(0, 2), a(2, 0), a(2, 2), a(0, 1));
        Expect.column(x, "a loop of a directed graph comes in once", x.column(g, 1, 0), 1, 2, 2, 0);
    }

    private static void ends() {
        Check.test("Promise 7, Terms 3: not directed, ends of arcs; a loop counts twice");
        GraphEngine x = new GraphEngine();
        int g = Make.graph(x, 4, false, a(0, 1), a(0, 2), a(2, 0), a(2, 2), a(0, 1));
        Expect.column(x, "out", x.column(g, 0, 0), 4, 2, 4, 0);
        Expect.column(x, "in, as out", x.column(g, 1, 0), 4, 2, 4, 0);
        int loops = Make.graph(x, 1, false, Make.times(60, 0, 0));
        Expect.column(x, "60 loops", x.column(loops, 0, 0), 120);
    }

    private static void weights() {
        Check.test("Promise 7, Terms 3: the sum of the weights of arcs out");
        GraphEngine x = new GraphEngine();
        int g = Make.graph(x, 4, true, a(0, 1, 5), a(0, 2, -7), a(2, 0, 3), a(2, 2, 10));
        Expect.column(x, "directed", x.column(g, 2, 0), -2, 0, 13, 0);
        int full = Make.graph(x, 2, true, Make.times(60, 1, 0, -1000, 0));
        Expect.column(x, "the least there is", x.column(full, 2, 0), 0, -60000);
    }

    private static void weightsNotDirected() {
        Check.test("Promise 7, Terms 3: not directed, of arcs that it is an end of, a loop once");
        GraphEngine x = new GraphEngine();
        int g = Make.graph(x, 4, false, a(0, 1, 5), a(0, 2, -7), a(2, 0, 3), a(2, 2, 10));
        Expect.column(x, "not directed", x.column(g, 2, 0), 1, 5, 6, 0);
    }

    private static void cores() {
        Check.test("Promise 7, Terms 3: CORE, directions do not count");
        GraphEngine x = new GraphEngine();
        int[][] rows = {a(0, 1), a(1, 2), a(0, 2), a(2, 3), a(3, 4), a(5, 4)};
        Expect.column(x, "directed", x.column(Make.graph(x, 7, true, rows), 3, 0), 2, 2, 2, 1, 1, 1, 0);
        Expect.column(x, "not directed", x.column(Make.graph(x, 7, false, rows), 3, 0), 2, 2, 2, 1, 1, 1, 0);
        int all = Make.allJoined(x, 11);
        Check.fine(x, "11 joined", x.at(x.column(all, 3, 0), -1), 110);
    }

    private static void coresWithoutLoops() {
        Check.test("Promise 7, Terms 3: CORE, loops do not count");
        GraphEngine x = new GraphEngine();
        int g = Make.graph(x, 3, false, a(0, 0), a(0, 0), a(1, 2), a(2, 2));
        Expect.column(x, "loops", x.column(g, 3, 0), 0, 1, 1);
    }

    private static void coresOfSeveralArcs() {
        Check.test("Promise 7, Terms 3: CORE counts ends of arcs, not neighbours");
        GraphEngine x = new GraphEngine();
        int g = Make.graph(x, 4, true, a(0, 1), a(1, 0), a(0, 1), a(1, 2), a(2, 3));
        Expect.column(x, "three arcs of one pair", x.column(g, 3, 0), 3, 3, 1, 1);
        int full = Make.graph(x, 2, false, Make.times(60, 0, 1));
        Expect.column(x, "60 arcs of one pair", x.column(full, 3, 0), 60, 60);
    }

    private static void far() {
        Check.test("Promise 7, Terms 3: FAR, the greatest of the least numbers of arcs");
        GraphEngine x = new GraphEngine();
        int g = Make.graph(x, 5, true, a(0, 1, -9), a(1, 2, 5), a(2, 3), a(0, 2), a(3, 3));
        Expect.column(x, "directed", x.column(g, 4, 0), 2, 2, 1, 0, 0);
        int h = Make.graph(x, 5, false, a(0, 1), a(1, 2), a(2, 3), a(0, 2));
        Expect.column(x, "not directed", x.column(h, 4, 0), 2, 2, 1, 2, 0);
        int ring = Make.ring(x, 16, true);
        Check.fine(x, "round a ring of 16", x.at(x.column(ring, 4, 0), 9), 15);
        Check.fine(x, "each", x.at(x.column(ring, 4, 0), -1), 240);
    }

    private static void farOverBranches() {
        Check.test("Promise 7, Terms 3: FAR, over whichever of several nodes leads on");
        GraphEngine x = new GraphEngine();
        int g = Make.graph(x, 7, true, a(0, 1), a(0, 2), a(0, 3), a(1, 4), a(2, 5), a(4, 6));
        Expect.column(x, "the first branch is the longest", x.column(g, 4, 0), 3, 2, 1, 0, 1, 0, 0);
        int h = Make.graph(x, 5, true, a(0, 3), a(0, 2), a(0, 1), a(1, 4), a(3, 4), a(2, 2));
        Expect.column(x, "two branches meet", x.column(h, 4, 0), 2, 1, 0, 1, 0);
    }

    private static void farWhereOneGetsNowhere() {
        Check.test("Promise 7, Terms 3: FAR of a node from which one gets nowhere is 0");
        GraphEngine x = new GraphEngine();
        int g = Make.graph(x, 3, true, a(0, 2), a(1, 1));
        Expect.column(x, "an end, a loop", x.column(g, 4, 0), 1, 0, 0);
    }

    private static void walksOfNone() {
        Check.test("Promise 7, Terms 3: WALKS of 0 arcs: one from each node");
        GraphEngine x = new GraphEngine();
        int g = Make.graph(x, 3, true, a(0, 1), a(1, 1));
        Expect.column(x, "none", x.column(g, 5, 0), 1, 1, 1);
    }

    private static void walks() {
        Check.test("Promise 7, Terms 3: WALKS of x arcs from the node");
        GraphEngine x = new GraphEngine();
        int g = Make.graph(x, 3, true, a(0, 1), a(0, 1), a(1, 0), a(1, 2));
        Expect.column(x, "of 1", x.column(g, 5, 1), 2, 2, 0);
        Expect.column(x, "of 2", x.column(g, 5, 2), 4, 2, 0);
        Expect.column(x, "of 3", x.column(g, 5, 3), 4, 4, 0);
        int row = Make.graph(x, 2, true, a(0, 1));
        Expect.column(x, "of 2, where the row ends", x.column(row, 5, 2), 0, 0);
    }

    private static void walksNotDirected() {
        Check.test("Promise 7, Terms 3: WALKS go both directions of an arc, a loop once");
        GraphEngine x = new GraphEngine();
        int g = Make.graph(x, 2, false, a(0, 1), a(1, 1));
        Expect.column(x, "of 1", x.column(g, 5, 1), 1, 2);
        Expect.column(x, "of 3", x.column(g, 5, 3), 3, 5);
    }

    private static void walksBounds() {
        Check.test("Promise 7, Terms 3: WALKS, x is 0 .. 1000");
        GraphEngine x = new GraphEngine();
        int g = Make.ring(x, 3, true);
        for (int number : new int[] {-1, 1001, Integer.MIN_VALUE, Integer.MAX_VALUE}) {
            Check.refused(x, "x " + number, x.column(g, 5, number), -3);
        }
        Expect.column(x, "x 1000", x.column(g, 5, 1000), 1, 1, 1);
        Expect.column(x, "x 999", x.column(g, 5, 999), 1, 1, 1);
    }

    private static void walksWrap() {
        Check.test("Promise 7, Terms: numbers are longs, which wrap: WALKS");
        GraphEngine x = new GraphEngine();
        int two = Make.graph(x, 1, true, a(0, 0), a(0, 0));
        Expect.column(x, "2 to the 62", x.column(two, 5, 62), 1L << 62);
        Expect.column(x, "2 to the 63", x.column(two, 5, 63), Long.MIN_VALUE);
        Expect.column(x, "2 to the 64", x.column(two, 5, 64), 0);
        int three = Make.graph(x, 1, false, a(0, 0), a(0, 0), a(0, 0));
        long power = 1;
        for (int i = 0; i < 1000; i++) power *= 3;
        Expect.column(x, "3 to the 1000", x.column(three, 5, 1000), power);
    }

    private static void blocks() {
        Check.test("Promise 7, Terms 3: BLOCKS, greatest sets that hang together without any one of their nodes");
        GraphEngine x = new GraphEngine();
        int[][] rows = {a(0, 1), a(1, 2), a(2, 0), a(2, 3), a(3, 4), a(4, 5), a(5, 3), a(2, 6), a(6, 2), a(7, 7)};
        Expect.column(x, "directed", x.column(Make.graph(x, 8, true, rows), 6, 0), 1, 1, 3, 2, 1, 1, 1, 0);
        Expect.column(x, "not directed", x.column(Make.graph(x, 8, false, rows), 6, 0), 1, 1, 3, 2, 1, 1, 1, 0);
    }

    private static void blocksOfTwo() {
        Check.test("Promise 7, Terms 3: BLOCKS, two nodes that are joined, if they are in no greater one");
        GraphEngine x = new GraphEngine();
        int two = Make.graph(x, 2, true, a(1, 0), a(1, 0));
        Expect.column(x, "two nodes", x.column(two, 6, 0), 1, 1);
        int star = Make.graph(x, 4, false, a(0, 1), a(0, 2), a(0, 3));
        Expect.column(x, "a star", x.column(star, 6, 0), 3, 1, 1, 1);
        int three = Make.graph(x, 3, false, a(0, 1), a(1, 2), a(2, 0));
        Expect.column(x, "a ring of three is one", x.column(three, 6, 0), 1, 1, 1);
    }

    private static void blocksOfNone() {
        Check.test("Promise 7, Terms 3: BLOCKS, a node that is joined with none is in none; loops do not count");
        GraphEngine x = new GraphEngine();
        int g = Make.graph(x, 2, false, a(0, 0), a(0, 0));
        Expect.column(x, "loops", x.column(g, 6, 0), 0, 0);
    }
}
