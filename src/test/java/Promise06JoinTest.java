/** Promise 6, join: JOINED (parts false: of two graphs), or MELTED (of a graph and parts). */
public final class Promise06JoinTest {
    public static void main(String[] args) {
        joined();
        withItself();
        bothDirectedOrNeither();
        sixteenNodes();
        sixtyArcs();
        joinedHandlesFirst();
        melted();
        meltedToOne();
        meltedToAsMany();
        meltedOfAnother();
        notAsManyNodes();
        meltedHandlesFirst();
        wrongNumberBeforeNoRoom();
        noRoom();
        draftStays();
        Check.end();
    }

    private static int[] a(int... numbers) {
        return numbers;
    }

    private static void joined() {
        Check.test("Promise 6, Terms 2: JOINED, the first one's nodes and arcs, then the second one's");
        GraphEngine x = new GraphEngine();
        int g = Make.graph(x, 2, true, a(1, 0, 3, 4));
        int h = Make.graph(x, 3, true, a(0, 2, 5, 6), a(1, 1, 7, 8));
        Expect.graph(x, "g and h", x.join(g, h, false), 5, true, a(1, 0, 3, 4), a(2, 4, 5, 6), a(3, 3, 7, 8));
        Expect.graph(x, "h and g", x.join(h, g, false), 5, true, a(0, 2, 5, 6), a(1, 1, 7, 8), a(4, 3, 3, 4));
        Expect.graph(x, "g stays", g, 2, true, a(1, 0, 3, 4));
    }

    private static void withItself() {
        Check.test("Promise 6: a graph is joined with itself");
        GraphEngine x = new GraphEngine();
        int g = Make.graph(x, 2, true, a(1, 0, 3, 4));
        Expect.graph(x, "twice", x.join(g, g, false), 4, true, a(1, 0, 3, 4), a(3, 2, 3, 4));
        int one = Make.graph(x, 1, false);
        Expect.graph(x, "a node twice", x.join(one, one, false), 2, false);
    }

    private static void bothDirectedOrNeither() {
        Check.test("Promise 6: -3: not both directed or neither");
        GraphEngine x = new GraphEngine();
        int d = Make.graph(x, 2, true, a(0, 1, 3, 4));
        int u = Make.graph(x, 2, false, a(0, 1, 1, 1));
        Check.refused(x, "the first directed", x.join(d, u, false), -3);
        Check.refused(x, "the second directed", x.join(u, d, false), -3);
        Expect.graph(x, "neither", x.join(u, u, false), 4, false, a(0, 1, 1, 1), a(2, 3, 1, 1));
        Expect.graph(x, "both", x.join(d, d, false), 4, true, a(0, 1, 3, 4), a(2, 3, 3, 4));
    }

    private static void sixteenNodes() {
        Check.test("Promise 6, Terms 2: JOINED, -4: more than 16 nodes");
        GraphEngine x = new GraphEngine();
        int two = Make.graph(x, 2, true, a(1, 0, 3, 4));
        int three = Make.graph(x, 3, true);
        int fourteen = Make.graph(x, 14, true, a(13, 0, 5, 5));
        int sixteen = Make.graph(x, 16, true);
        Expect.graph(x, "2 and 14", x.join(two, fourteen, false), 16, true, a(1, 0, 3, 4), a(15, 2, 5, 5));
        Check.refused(x, "3 and 14", x.join(three, fourteen, false), -4);
        Check.refused(x, "14 and 3", x.join(fourteen, three, false), -4);
        Check.refused(x, "16 and 16", x.join(sixteen, sixteen, false), -4);
        Check.fine(x, "nothing is made", x.handles(), 5);
    }

    private static void sixtyArcs() {
        Check.test("Promise 6, Terms 2: JOINED, -4: more than 60 arcs");
        GraphEngine x = new GraphEngine();
        int thirty = Make.graph(x, 2, false, Make.times(30, 0, 1, 8, 9));
        x.arc(1, 1, 7, 7);
        int more = x.graph();
        int both = x.join(thirty, thirty, false);
        Check.fine(x, "30 and 30", x.of(both, 1, 0), 60);
        Check.fine(x, "from of the last", x.of(both, 3, 59), 2);
        Check.refused(x, "30 and 31", x.join(thirty, more, false), -4);
        Check.refused(x, "31 and 30", x.join(more, thirty, false), -4);
        int full = Make.graph(x, 1, false, Make.times(60, 0, 0));
        int none = Make.graph(x, 1, false);
        Check.fine(x, "60 and none", x.of(x.join(full, none, false), 1, 0), 60);
        Check.fine(x, "none and 60", x.of(x.join(none, full, false), 1, 0), 60);
    }

    private static void joinedHandlesFirst() {
        Check.test("Promise 6: JOINED, -1 of any, then -2 of any, then -3");
        GraphEngine x = new GraphEngine();
        int d = Make.graph(x, 2, true);
        int c = x.column(d, 0, 0);
        int w = x.ways(d, 0, 0);
        int p = x.parts(d, 0, 0);
        for (int none : new int[] {-1, 4, 120, Integer.MIN_VALUE, Integer.MAX_VALUE}) {
            Check.refused(x, "no first " + none, x.join(none, d, false), -1);
            Check.refused(x, "no second " + none, x.join(d, none, false), -1);
            Check.refused(x, "neither " + none, x.join(none, none, false), -1);
            Check.refused(x, "no first, the second of another sort " + none, x.join(none, c, false), -1);
            Check.refused(x, "the first of another sort, no second " + none, x.join(c, none, false), -1);
        }
        for (int other : new int[] {c, w, p}) {
            Check.refused(x, "the first of sort " + other, x.join(other, d, false), -2);
            Check.refused(x, "the second of sort " + other, x.join(d, other, false), -2);
            Check.refused(x, "both of sort " + other, x.join(other, other, false), -2);
        }
    }

    private static void melted() {
        Check.test("Promise 6, Terms 2: MELTED, nodes are the parts, arcs those between different ones");
        GraphEngine x = new GraphEngine();
        int g = Make.graph(x, 4, true, a(0, 2, 1, 1), a(2, 0, 2, 2), a(2, 3, 3, 3), a(1, 2, 4, 4), a(3, 3, 5, 5), a(0, 3, 6, 6));
        int p = x.parts(g, 0, 0);
        Expect.graph(x, "melted", x.join(g, p, true), 3, true, a(0, 2, 3, 3), a(1, 0, 4, 4), a(0, 2, 6, 6));
        int u = x.view(g, 1, 0);
        Expect.graph(x, "not directed", x.join(u, p, true), 3, false, a(0, 2, 3, 3), a(1, 0, 4, 4), a(0, 2, 6, 6));
    }

    private static void meltedToOne() {
        Check.test("Promise 6: MELTED by one part has one node, no arc");
        GraphEngine x = new GraphEngine();
        int g = Make.ring(x, 16, true);
        Expect.graph(x, "a ring", x.join(g, x.parts(g, 0, 0), true), 1, true);
    }

    private static void meltedToAsMany() {
        Check.test("Promise 6: MELTED by a part for each node loses loops alone");
        GraphEngine x = new GraphEngine();
        int g = Make.graph(x, 3, true, a(2, 1, 5, 6), a(1, 1, 7, 8), a(2, 1, 5, 6), a(0, 0, 1, 1));
        Expect.graph(x, "three parts", x.join(g, x.parts(g, 0, 0), true), 3, true, a(2, 1, 5, 6), a(2, 1, 5, 6));
    }

    private static void meltedOfAnother() {
        Check.test("Promise 6: MELTED by parts of another graph with as many nodes");
        GraphEngine x = new GraphEngine();
        int g = Make.graph(x, 4, true, a(0, 2), a(2, 0));
        int p = x.parts(g, 0, 0);
        int u = Make.graph(x, 4, false, a(3, 0, 8, 9), a(0, 2, 7, 7), a(3, 2, 6, 6));
        Expect.graph(x, "of another graph", x.join(u, p, true), 3, false, a(2, 0, 8, 9), a(2, 0, 6, 6));
    }

    private static void notAsManyNodes() {
        Check.test("Promise 6: MELTED, -3: not as many nodes");
        GraphEngine x = new GraphEngine();
        int three = Make.graph(x, 3, true);
        int four = Make.graph(x, 4, true);
        int p = x.parts(three, 0, 0);
        int q = x.parts(four, 0, 0);
        Check.refused(x, "4 by 3", x.join(four, p, true), -3);
        Check.refused(x, "3 by 4", x.join(three, q, true), -3);
        int ring = Make.ring(x, 4, true);
        int one = x.parts(ring, 0, 0);
        int single = Make.graph(x, 1, true);
        Check.refused(x, "as many nodes as there are parts will not do", x.join(single, one, true), -3);
    }

    private static void meltedHandlesFirst() {
        Check.test("Promise 6: MELTED, -1 of any, then -2 of any, then -3");
        GraphEngine x = new GraphEngine();
        int g = Make.graph(x, 2, true);
        int c = x.column(g, 0, 0);
        int w = x.ways(g, 0, 0);
        int p = x.parts(Make.graph(x, 3, true), 0, 0);
        for (int none : new int[] {-1, 5, 120, Integer.MIN_VALUE, Integer.MAX_VALUE}) {
            Check.refused(x, "no graph " + none, x.join(none, p, true), -1);
            Check.refused(x, "no parts " + none, x.join(g, none, true), -1);
            Check.refused(x, "no graph, parts of another sort " + none, x.join(none, g, true), -1);
            Check.refused(x, "graph of another sort, no parts " + none, x.join(p, none, true), -1);
        }
        for (int other : new int[] {g, c, w}) {
            Check.refused(x, "parts of sort " + other, x.join(g, other, true), -2);
        }
        for (int other : new int[] {p, c, w}) {
            Check.refused(x, "a graph of sort " + other, x.join(other, p, true), -2);
        }
        Check.refused(x, "parts, then the graph", x.join(p, g, true), -2);
    }

    private static void wrongNumberBeforeNoRoom() {
        Check.test("Promise 6: -3 before -4");
        GraphEngine x = new GraphEngine();
        int d = Make.graph(x, 16, true);
        int u = Make.graph(x, 16, false);
        int one = Make.graph(x, 1, true);
        int p = x.parts(d, 0, 0);
        Check.refused(x, "one directed, and 32 nodes", x.join(d, u, false), -3);
        Make.fillHandles(x);
        Check.refused(x, "one directed, and no handle", x.join(one, u, false), -3);
        Check.refused(x, "not as many nodes, and no handle", x.join(one, p, true), -3);
        Check.refused(x, "another sort, and no handle", x.join(p, p, true), -2);
        Check.refused(x, "no such thing, and no handle", x.join(120, p, true), -1);
    }

    private static void noRoom() {
        Check.test("Promise 6: -4 where all handles are taken");
        GraphEngine x = new GraphEngine();
        int g = Make.graph(x, 2, true);
        int p = x.parts(g, 0, 0);
        Make.fillHandles(x);
        Check.refused(x, "joined", x.join(g, g, false), -4);
        Check.refused(x, "melted", x.join(g, p, true), -4);
        x.drop();
        Check.fine(x, "behind drop()", x.join(g, p, true), 119);
    }

    private static void draftStays() {
        Check.test("Promise 6: the draft is not touched");
        GraphEngine x = new GraphEngine();
        int g = Make.graph(x, 2, true, a(0, 1, 5, 6));
        x.join(g, g, false);
        x.join(g, x.parts(g, 1, 0), true);
        Check.fine(x, "arc() goes on", x.arc(1, 0, 7, 8), 1);
        Expect.graph(x, "the draft", x.graph(), 2, true, a(0, 1, 5, 6), a(1, 0, 7, 8));
    }
}
