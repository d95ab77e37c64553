/** Promise 5, view: a view of a graph (kind 0 .. 7; x counts for 4, 5): its handle, or what is refused. */
public final class Promise05ViewTest {
    public static void main(String[] args) {
        kinds();
        xDoesNotCount();
        handlesFirst();
        noRoom();
        refusedMakesNothing();
        changesNothing();
        draftStays();
        ofViews();
        emptyGraphs();
        fullGraphs();
        reversed();
        undirected();
        withoutLoops();
        simpleLoops();
        simpleDirected();
        simpleNotDirected();
        simpleFirstOfSeveral();
        Check.end();
    }

    private static int[] a(int... numbers) {
        return numbers;
    }

    private static void kinds() {
        Check.test("Promise 5: kinds are 0 .. 7");
        GraphEngine x = new GraphEngine();
        int g = Make.graph(x, 2, true, a(0, 1));
        for (int kind : new int[] {-1, 8, 9, Integer.MIN_VALUE, Integer.MAX_VALUE}) {
            Check.refused(x, "kind " + kind, x.view(g, kind, 1), -3);
        }
        for (int kind = 0; kind <= 7; kind++) {
            Check.fine(x, "kind " + kind, x.view(g, kind, 1), kind + 1);
        }
    }

    private static void xDoesNotCount() {
        Check.test("Promise 5: x counts for 4 and 5 alone");
        GraphEngine x = new GraphEngine();
        int g = Make.graph(x, 3, true, a(0, 1), a(1, 2), a(2, 2));
        int handle = g + 1;
        for (int kind : new int[] {0, 1, 2, 3, 6, 7}) {
            for (int number : new int[] {0, -1, Integer.MIN_VALUE, Integer.MAX_VALUE}) {
                Check.fine(x, "kind " + kind + ", x " + number, x.view(g, kind, number), handle);
                Check.due("the same as with 5", x.ask(handle, 16, 0, x.view(g, kind, 5)), 1);
                x.drop();
                handle++;
            }
        }
    }

    private static void handlesFirst() {
        Check.test("Promise 5: -1, then -2, then -3");
        GraphEngine x = new GraphEngine();
        int g = Make.graph(x, 2, true);
        int c = x.column(g, 0, 0);
        int w = x.ways(g, 0, 0);
        int p = x.parts(g, 0, 0);
        for (int none : new int[] {-1, 4, 120, Integer.MIN_VALUE, Integer.MAX_VALUE}) {
            Check.refused(x, "no handle " + none, x.view(none, 0, 0), -1);
            Check.refused(x, "no handle and no kind " + none, x.view(none, 8, 0), -1);
            Check.refused(x, "no handle and no set " + none, x.view(none, 4, 0), -1);
        }
        for (int other : new int[] {c, w, p}) {
            Check.refused(x, "of another sort " + other, x.view(other, 0, 0), -2);
            Check.refused(x, "of another sort and no kind " + other, x.view(other, 8, 0), -2);
            Check.refused(x, "of another sort and no set " + other, x.view(other, 4, 0), -2);
        }
    }

    private static void noRoom() {
        Check.test("Promise 5: -4 where all handles are taken, behind all else");
        GraphEngine x = new GraphEngine();
        int g = Make.graph(x, 2, true, a(0, 1));
        int none = Make.graph(x, 2, true);
        Make.fillHandles(x);
        for (int kind = 0; kind <= 7; kind++) {
            Check.refused(x, "kind " + kind, x.view(g, kind, 1), -4);
        }
        Check.refused(x, "no handle", x.view(120, 0, 0), -1);
        Check.refused(x, "of another sort", x.view(119, 0, 0), -2);
        Check.refused(x, "no kind", x.view(g, 8, 0), -3);
        Check.refused(x, "no nodes in the set", x.view(g, 4, 0), -3);
        Check.refused(x, "lines of no arcs", x.view(none, 7, 0), -3);
        x.drop();
        Check.fine(x, "behind drop()", x.view(g, 0, 0), 119);
    }

    private static void refusedMakesNothing() {
        Check.test("Promise 5: what is refused makes nothing");
        GraphEngine x = new GraphEngine();
        int g = Make.graph(x, 2, true, a(0, 1));
        x.view(g, 8, 0);
        x.view(g, 4, 0);
        x.view(9, 0, 0);
        Check.fine(x, "handles()", x.handles(), 1);
        Expect.graph(x, "the next one", x.view(g, 0, 0), 2, true, a(1, 0));
    }

    private static void changesNothing() {
        Check.test("Promise 5: the graph itself never changes");
        GraphEngine x = new GraphEngine();
        int[][] rows = {a(0, 1, 5, 6), a(1, 0, 4, 6), a(2, 2, 7, 8), a(1, 2, 1, 1)};
        int g = Make.graph(x, 3, true, rows);
        for (int kind = 0; kind <= 7; kind++) {
            x.view(g, kind, 3);
        }
        Expect.graph(x, "the graph", g, 3, true, rows);
    }

    private static void draftStays() {
        Check.test("Promise 5: the draft is not touched");
        GraphEngine x = new GraphEngine();
        int g = Make.graph(x, 3, true, a(0, 1, 5, 6), a(1, 2, 7, 8));
        for (int kind = 0; kind <= 7; kind++) {
            x.view(g, kind, 3);
        }
        Check.fine(x, "arc() goes on", x.arc(2, 0, 9, 9), 2);
        Expect.graph(x, "the draft", x.graph(), 3, true, a(0, 1, 5, 6), a(1, 2, 7, 8), a(2, 0, 9, 9));
    }

    private static void ofViews() {
        Check.test("Promise 5: a view is a graph, with views of its own");
        GraphEngine x = new GraphEngine();
        int g = Make.graph(x, 3, true, a(0, 1, 5, 6), a(1, 2, 7, 8), a(2, 2, 1, 1));
        int back = x.view(x.view(g, 0, 0), 0, 0);
        Expect.graph(x, "reversed twice", back, 3, true, a(0, 1, 5, 6), a(1, 2, 7, 8), a(2, 2, 1, 1));
        Expect.graph(x, "part of what is without loops", x.view(x.view(g, 2, 0), 4, 6), 2, true, a(0, 1, 7, 8));
    }

    private static void emptyGraphs() {
        Check.test("Promise 5: views of a graph without arcs");
        GraphEngine x = new GraphEngine();
        int g = Make.graph(x, 1, true);
        int h = Make.graph(x, 16, false);
        for (int kind = 0; kind <= 6; kind++) {
            Expect.graph(x, "one node, kind " + kind, x.view(g, kind, 1), 1, kind != 1);
            Expect.graph(x, "16 nodes, kind " + kind, x.view(h, kind, 0xFFFF), 16, false);
        }
    }

    private static void fullGraphs() {
        Check.test("Promise 5: views of a graph with 60 arcs");
        GraphEngine x = new GraphEngine();
        int g = Make.graph(x, 16, true, Make.times(60, 15, 0, 5, 6));
        for (int kind : new int[] {0, 1, 2, 4, 5}) {
            int v = x.view(g, kind, kind == 4 ? 0x8001 : 5);
            Check.fine(x, "arcs of kind " + kind, x.of(v, 1, 0), 60);
            Check.fine(x, "weight of the last of kind " + kind, x.of(v, 5, 59), 5);
        }
        Expect.graph(x, "simple", x.view(g, 3, 0), 16, true, a(15, 0, 5, 6));
    }

    private static void reversed() {
        Check.test("Promise 5, Terms 2: REVERSED exchanges from and to");
        GraphEngine x = new GraphEngine();
        int g = Make.graph(x, 3, true, a(0, 1, 5, 6), a(2, 2, 7, 8), a(2, 1, 9, 10));
        Expect.graph(x, "directed", x.view(g, 0, 0), 3, true, a(1, 0, 5, 6), a(2, 2, 7, 8), a(1, 2, 9, 10));
        int h = Make.graph(x, 3, false, a(0, 1, 5, 6));
        Expect.graph(x, "not directed", x.view(h, 0, 0), 3, false, a(1, 0, 5, 6));
    }

    private static void undirected() {
        Check.test("Promise 5, Terms 2: UNDIRECTED has the same arcs");
        GraphEngine x = new GraphEngine();
        int g = Make.graph(x, 3, true, a(2, 1, 5, 6), a(1, 2, 5, 6), a(0, 0, 1, 1));
        Expect.graph(x, "of a directed one", x.view(g, 1, 0), 3, false, a(2, 1, 5, 6), a(1, 2, 5, 6), a(0, 0, 1, 1));
        int h = Make.graph(x, 2, false, a(1, 0, 5, 6));
        Expect.graph(x, "of one that is not", x.view(h, 1, 0), 2, false, a(1, 0, 5, 6));
    }

    private static void withoutLoops() {
        Check.test("Promise 5, Terms 2: without LOOPS, all else stays");
        GraphEngine x = new GraphEngine();
        int g = Make.graph(x, 3, true, a(0, 0, 1, 1), a(2, 1, 5, 6), a(1, 1, 2, 2), a(2, 1, 5, 6), a(1, 2, 5, 6));
        Expect.graph(x, "some loops", x.view(g, 2, 0), 3, true, a(2, 1, 5, 6), a(2, 1, 5, 6), a(1, 2, 5, 6));
        int h = Make.graph(x, 2, false, a(0, 0, 1, 1), a(1, 1, 2, 2));
        Expect.graph(x, "nothing but loops", x.view(h, 2, 0), 2, false);
    }

    private static void simpleLoops() {
        Check.test("Promise 5, Terms 2: SIMPLE is without loops");
        GraphEngine x = new GraphEngine();
        int g = Make.graph(x, 2, true, a(0, 0, -9), a(0, 1, 4), a(1, 1, -9));
        Expect.graph(x, "loops", x.view(g, 3, 0), 2, true, a(0, 1, 4));
        int h = Make.graph(x, 1, false, a(0, 0, -9));
        Expect.graph(x, "nothing but a loop", x.view(h, 3, 0), 1, false);
    }

    private static void simpleDirected() {
        Check.test("Promise 5, Terms 2: SIMPLE, directed: there and back are other ends");
        GraphEngine x = new GraphEngine();
        int g = Make.graph(x, 3, true, a(0, 1, 4, 0), a(1, 0, 3, 1), a(0, 1, 2, 2), a(1, 2, 9, 4), a(1, 0, 5, 5));
        Expect.graph(x, "there and back", x.view(g, 3, 0), 3, true, a(1, 0, 3, 1), a(0, 1, 2, 2), a(1, 2, 9, 4));
    }

    private static void simpleNotDirected() {
        Check.test("Promise 5, Terms 2: SIMPLE, not directed: there and back are the same two ends");
        GraphEngine x = new GraphEngine();
        int g = Make.graph(x, 3, false, a(0, 1, 4, 0), a(1, 0, 3, 1), a(0, 1, 2, 2), a(1, 2, 9, 4), a(1, 0, -5, 5));
        Expect.graph(x, "there and back", x.view(g, 3, 0), 3, false, a(1, 2, 9, 4), a(1, 0, -5, 5));
    }

    private static void simpleFirstOfSeveral() {
        Check.test("Promise 5, Terms 2: SIMPLE, of several with the least weight the first");
        GraphEngine x = new GraphEngine();
        int g = Make.graph(x, 2, true, a(0, 1, 4, 0), a(0, 1, 2, 1), a(0, 1, 2, 2), a(0, 1, 2, 0), a(0, 1, 3, 0));
        Expect.graph(x, "directed", x.view(g, 3, 0), 2, true, a(0, 1, 2, 1));
        int h = Make.graph(x, 2, false, a(1, 0, 2, 9), a(0, 1, 2, 1));
        Expect.graph(x, "not directed: its own from and to", x.view(h, 3, 0), 2, false, a(1, 0, 2, 9));
    }
}
