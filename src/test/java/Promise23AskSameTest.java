/** Promise 23, ask: 16 SAME, 17 that numbering. */
public final class Promise23AskSameTest {
    public static void main(String[] args) {
        same();
        itself();
        asManyNodes();
        bothDirectedOrNeither();
        directions();
        weightsAndCosts();
        asOften();
        endsInEitherOrder();
        loops();
        alikeButNotSame();
        arcsDecide();
        leastGraphs();
        numbering();
        lesserFirst();
        lesserForFirstOfAll();
        noNumbering();
        manyNumberings();
        Check.end();
    }

    private static int[] a(int... numbers) {
        return numbers;
    }

    private static void numbers(GraphEngine x, String name, int g, int h, int... want) {
        for (int v = 0; v < want.length; v++) {
            Expect.ask(x, name, g, 17, v, h, want[v]);
        }
    }

    private static void areSame(GraphEngine x, String name, int g, int h, boolean want) {
        Expect.ask(x, name, g, 16, 0, h, want ? 1 : 0);
        Expect.ask(x, name + ", the other way", h, 16, 0, g, want ? 1 : 0);
        Check.fine(x, name + ", a numbering", x.ask(g, 17, 0, h) >= 0 ? 1 : 0, want ? 1 : 0);
    }

    private static void same() {
        Check.test("Promise 23: 16 SAME, nodes can be numbered anew so that it is the other graph");
        GraphEngine x = new GraphEngine();
        int g = Make.graph(x, 3, true, a(0, 1, 5, 1), a(1, 2, 6, 2));
        int h = Make.graph(x, 3, true, a(2, 0, 6, 2), a(1, 2, 5, 1));
        areSame(x, "a row, other numbers, other order of arcs", g, h, true);
    }

    private static void itself() {
        Check.test("Promise 23: 16 SAME, a graph and itself");
        GraphEngine x = new GraphEngine();
        int g = Make.graph(x, 3, true, a(0, 1, 5, 1), a(1, 2, 6, 2));
        areSame(x, "itself", g, g, true);
        areSame(x, "reversed twice", g, x.view(x.view(g, 0, 0), 0, 0), true);
    }

    private static void asManyNodes() {
        Check.test("Promise 23: 16 SAME, as many nodes");
        GraphEngine x = new GraphEngine();
        int two = Make.graph(x, 2, true, a(0, 1));
        int three = Make.graph(x, 3, true, a(0, 1));
        areSame(x, "two and three", two, three, false);
        areSame(x, "none of 15 and 16 joined", Make.graph(x, 15, true), Make.graph(x, 16, true), false);
    }

    private static void bothDirectedOrNeither() {
        Check.test("Promise 23: 16 SAME, both directed or neither");
        GraphEngine x = new GraphEngine();
        int d = Make.graph(x, 2, true, a(0, 1));
        areSame(x, "directed and not", d, x.view(d, 1, 0), false);
        areSame(x, "even without arcs", Make.graph(x, 2, true), Make.graph(x, 2, false), false);
    }

    private static void directions() {
        Check.test("Promise 23: 16 SAME, directed arcs have their directions");
        GraphEngine x = new GraphEngine();
        int out = Make.graph(x, 3, true, a(0, 1), a(0, 2));
        int in = Make.graph(x, 3, true, a(1, 0), a(2, 0));
        areSame(x, "out and in", out, in, false);
        areSame(x, "one arc turned is the same", Make.graph(x, 2, true, a(0, 1)), Make.graph(x, 2, true, a(1, 0)), true);
        areSame(x, "a ring turned", Make.ring(x, 5, true), x.view(Make.ring(x, 5, true), 0, 0), true);
    }

    private static void weightsAndCosts() {
        Check.test("Promise 23: 16 SAME, each arc with its weight and cost");
        GraphEngine x = new GraphEngine();
        int g = Make.graph(x, 3, true, a(0, 1, 5, 1), a(1, 2, 6, 2));
        areSame(x, "another weight", g, Make.graph(x, 3, true, a(0, 1, 5, 1), a(1, 2, 7, 2)), false);
        areSame(x, "another cost", g, Make.graph(x, 3, true, a(0, 1, 5, 1), a(1, 2, 6, 3)), false);
        areSame(x, "weights exchanged", g, Make.graph(x, 3, true, a(0, 1, 6, 1), a(1, 2, 5, 2)), false);
        areSame(x, "weight for cost", Make.graph(x, 1, false, a(0, 0, 5, 6)), Make.graph(x, 1, false, a(0, 0, 6, 5)), false);
        areSame(x, "the ends", Make.graph(x, 1, false, a(0, 0, 1000, -1000)), Make.graph(x, 1, false, a(0, 0, -1000, 1000)), false);
    }

    private static void asOften() {
        Check.test("Promise 23: 16 SAME, each arc as often");
        GraphEngine x = new GraphEngine();
        int g = Make.graph(x, 2, false, a(0, 1, 1, 1), a(0, 1, 1, 1), a(0, 1, 2, 1));
        areSame(x, "twice the other", g, Make.graph(x, 2, false, a(0, 1, 1, 1), a(0, 1, 2, 1), a(0, 1, 2, 1)), false);
        areSame(x, "another order", g, Make.graph(x, 2, false, a(0, 1, 2, 1), a(0, 1, 1, 1), a(0, 1, 1, 1)), true);
        areSame(x, "one less", g, Make.graph(x, 2, false, a(0, 1, 1, 1), a(0, 1, 2, 1)), false);
        int there = Make.graph(x, 2, true, a(0, 1), a(0, 1));
        areSame(x, "there twice, and there and back", there, Make.graph(x, 2, true, a(0, 1), a(1, 0)), false);
    }

    private static void endsInEitherOrder() {
        Check.test("Promise 23: 16 SAME, not directed: ends in either order");
        GraphEngine x = new GraphEngine();
        int g = Make.graph(x, 3, false, a(0, 1, 1, 1), a(0, 1, 1, 1), a(1, 2, 2, 1));
        int h = Make.graph(x, 3, false, a(2, 1, 2, 1), a(1, 0, 1, 1), a(0, 1, 1, 1));
        areSame(x, "turned round", g, h, true);
        numbers(x, "and the numbers stay", g, h, 0, 1, 2);
    }

    private static void loops() {
        Check.test("Promise 23: 16 SAME, loops are arcs");
        GraphEngine x = new GraphEngine();
        int end = Make.graph(x, 3, true, a(0, 1), a(1, 2), a(2, 2));
        int start = Make.graph(x, 3, true, a(0, 1), a(1, 2), a(0, 0));
        areSame(x, "at the end and at the start", end, start, false);
        areSame(x, "none", end, Make.graph(x, 3, true, a(0, 1), a(1, 2)), false);
        areSame(x, "two nodes with a loop each, or one with both",
                Make.graph(x, 2, false, a(0, 0), a(1, 1)), Make.graph(x, 2, false, a(0, 0), a(0, 0)), false);
    }

    private static void alikeButNotSame() {
        Check.test("Promise 23: 16 SAME, a ring of six is not two of three");
        GraphEngine x = new GraphEngine();
        int three = Make.ring(x, 3, false);
        areSame(x, "rings", Make.ring(x, 6, false), x.join(three, three, false), false);
    }

    private static void arcsDecide() {
        Check.test("Promise 23: 16 SAME, each arc between the same two nodes");
        GraphEngine x = new GraphEngine();
        int both = Make.graph(x, 3, true, a(0, 1, 0, -1), a(0, 1, 1, 0));
        areSame(x, "to one node, from one or from two", both, Make.graph(x, 3, true, a(0, 1, 0, -1), a(2, 1, 1, 0)), false);
        int last = Make.graph(x, 5, true, a(3, 1, 0, -1));
        int first = Make.graph(x, 5, true, a(4, 0, 0, -1));
        areSame(x, "an arc among five", last, first, true);
        numbers(x, "an arc among five", last, first, 1, 0, 2, 4, 3);
        int weights = Make.graph(x, 2, true, a(0, 1, 3, 1), a(1, 0, 4, 1), a(1, 1, 9, 9));
        areSame(x, "weights of there and back", weights, Make.graph(x, 2, true, a(0, 1, 4, 1), a(1, 0, 3, 1), a(1, 1, 9, 9)), false);
        areSame(x, "there twice", Make.graph(x, 2, true, a(0, 1, 3, 1), a(0, 1, 3, 1), a(1, 0, 4, 1), a(0, 0, 9, 9)),
                Make.graph(x, 2, true, a(0, 1, 3, 1), a(1, 0, 4, 1), a(0, 1, 2, 1), a(0, 0, 9, 9)), false);
    }

    private static void leastGraphs() {
        Check.test("Promise 23: 16 SAME of graphs without arcs");
        GraphEngine x = new GraphEngine();
        int one = x.graph();
        areSame(x, "one node", one, x.graph(), true);
        numbers(x, "one node", one, one, 0);
        int sixteen = Make.graph(x, 16, true);
        numbers(x, "16 nodes", sixteen, sixteen, 0, 1, 2, 3, 4, 5, 6, 7, 8, 9, 10, 11, 12, 13, 14, 15);
    }

    private static void numbering() {
        Check.test("Promise 23: 17 the new number of node x");
        GraphEngine x = new GraphEngine();
        int g = Make.graph(x, 4, true, a(0, 1), a(1, 2), a(2, 3));
        int h = Make.graph(x, 4, true, a(2, 0), a(0, 3), a(3, 1));
        numbers(x, "one numbering alone", g, h, 2, 0, 3, 1);
        numbers(x, "and back", h, g, 1, 3, 0, 2);
    }

    private static void lesserFirst() {
        Check.test("Promise 23: 17 the lesser number for the first node for which two differ");
        GraphEngine x = new GraphEngine();
        int g = Make.graph(x, 4, true, a(3, 0, 5, 1), a(3, 1, 5, 1), a(3, 2, 5, 1));
        int h = Make.graph(x, 4, true, a(1, 0, 5, 1), a(1, 2, 5, 1), a(1, 3, 5, 1));
        numbers(x, "ends of a star", g, h, 0, 2, 3, 1);
        numbers(x, "itself", h, h, 0, 1, 2, 3);
    }

    private static void lesserForFirstOfAll() {
        Check.test("Promise 23: 17 a ring: node 0 first, then node 1");
        GraphEngine x = new GraphEngine();
        int ring = Make.graph(x, 4, false, a(0, 2), a(2, 1), a(1, 3), a(3, 0));
        int other = Make.ring(x, 4, false);
        numbers(x, "a ring", ring, other, 0, 2, 1, 3);
        int six = Make.graph(x, 6, false, a(0, 3), a(3, 1), a(1, 4), a(4, 2), a(2, 5), a(5, 0));
        numbers(x, "a ring of six", six, Make.ring(x, 6, false), 0, 2, 4, 1, 3, 5);
        int directed = Make.graph(x, 3, true, a(0, 2), a(2, 1), a(1, 0));
        numbers(x, "a directed ring", directed, Make.ring(x, 3, true), 0, 2, 1);
    }

    private static void noNumbering() {
        Check.test("Promise 23: 17, -1 if there is none");
        GraphEngine x = new GraphEngine();
        int g = Make.graph(x, 3, true, a(0, 1));
        numbers(x, "more nodes", g, Make.graph(x, 4, true, a(0, 1)), -1, -1, -1);
        numbers(x, "not directed", g, x.view(g, 1, 0), -1, -1, -1);
        numbers(x, "another weight", g, Make.graph(x, 3, true, a(0, 1, 2)), -1, -1, -1);
        int three = Make.ring(x, 3, false);
        numbers(x, "rings", Make.ring(x, 6, false), x.join(three, three, false), -1, -1, -1, -1, -1, -1);
    }

    private static void manyNumberings() {
        Check.test("Promise 23: 17 of very many numberings the least");
        GraphEngine x = new GraphEngine();
        x.begin(16, false);
        for (int v = 0; v < 16; v += 2) x.arc(v, v + 1, 1, 1);
        int pairs = x.graph();
        x.begin(16, false);
        for (int v = 0; v < 8; v++) x.arc(v + 8, v, 1, 1);
        int halves = x.graph();
        numbers(x, "eight pairs", pairs, halves, 0, 8, 1, 9, 2, 10, 3, 11, 4, 12, 5, 13, 6, 14, 7, 15);
        numbers(x, "and back", halves, pairs, 0, 2, 4, 6, 8, 10, 12, 14, 1, 3, 5, 7, 9, 11, 13, 15);
        int all = Make.allJoined(x, 11);
        numbers(x, "11 joined", all, all, 0, 1, 2, 3, 4, 5, 6, 7, 8, 9, 10);
    }
}
