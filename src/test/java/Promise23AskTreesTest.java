/** Promise 23, ask: 9 TREES, 10 LIGHT, 11 whether an arc is among these. */
public final class Promise23AskTreesTest {
    public static void main(String[] args) {
        treesOfOneNode();
        treesOfWhatIsApart();
        trees();
        treesCountEachArc();
        treesWithoutLoops();
        treesModulo();
        treesWhoseNumberIsTheModulus();
        treesOverWhatIsTheModulus();
        lightOfNothing();
        lightOfWhatIsApart();
        lightBelowZero();
        lightWithoutLoops();
        lightDirections();
        among();
        amongLesserNumbers();
        amongIsWhatLightSums();
        Check.end();
    }

    private static int[] a(int... numbers) {
        return numbers;
    }

    private static void amongAre(GraphEngine x, String name, int g, int... want) {
        for (int i = 0; i < want.length; i++) {
            Expect.ask(x, name, g, 11, i, 0, want[i]);
        }
    }

    private static void treesOfOneNode() {
        Check.test("Promise 23: 9 TREES, one node hangs together without arcs");
        GraphEngine x = new GraphEngine();
        Expect.ask(x, "no arc", x.graph(), 9, 1);
        Expect.ask(x, "loops", Make.graph(x, 1, true, a(0, 0), a(0, 0)), 9, 1);
    }

    private static void treesOfWhatIsApart() {
        Check.test("Promise 23: 9 TREES, none where not all nodes hang together");
        GraphEngine x = new GraphEngine();
        Expect.ask(x, "two nodes", Make.graph(x, 2, false), 9, 0);
        Expect.ask(x, "the last apart", Make.graph(x, 3, true, a(0, 1)), 9, 0);
        Expect.ask(x, "the first apart", Make.graph(x, 3, true, a(2, 1)), 9, 0);
        int ring = Make.ring(x, 8, false);
        Expect.ask(x, "two rings", x.join(ring, ring, false), 9, 0);
    }

    private static void trees() {
        Check.test("Promise 23: 9 TREES, all nodes hang together, but no longer without one of the arcs");
        GraphEngine x = new GraphEngine();
        Expect.ask(x, "a tree", Make.graph(x, 4, false, a(0, 1), a(1, 2), a(1, 3)), 9, 1);
        Expect.ask(x, "directions do not count", Make.graph(x, 4, true, a(0, 1), a(2, 1), a(2, 3), a(0, 3)), 9, 4);
        Expect.ask(x, "a ring of 16", Make.ring(x, 16, true), 9, 16);
        Expect.ask(x, "four joined", Make.allJoined(x, 4), 9, 16);
        Expect.ask(x, "five joined", Make.allJoined(x, 5), 9, 125);
    }

    private static void treesCountEachArc() {
        Check.test("Promise 23: 9 TREES, arcs with the same ends are different choices");
        GraphEngine x = new GraphEngine();
        Expect.ask(x, "there and back", Make.graph(x, 2, true, a(0, 1), a(1, 0), a(0, 1)), 9, 3);
        Expect.ask(x, "60 arcs of one pair", Make.graph(x, 2, false, Make.times(60, 1, 0)), 9, 60);
    }

    private static void treesWithoutLoops() {
        Check.test("Promise 23: 9 TREES, a loop is never needed");
        GraphEngine x = new GraphEngine();
        Expect.ask(x, "loops", Make.graph(x, 2, false, a(0, 0), a(0, 1), a(1, 1), a(1, 1)), 9, 1);
    }

    private static void treesModulo() {
        Check.test("Promise 23: 9 TREES, modulo 1000000007");
        GraphEngine x = new GraphEngine();
        Expect.ask(x, "10 joined: 100000000", Make.allJoined(x, 10), 9, 100000000L);
        Expect.ask(x, "11 joined: 2357947691", Make.allJoined(x, 11), 9, 2357947691L - 2 * 1000000007L);
        x.begin(16, false);
        for (int i = 0; i < 60; i++) x.arc(i / 4, i / 4 + 1, 0, 0);
        Expect.ask(x, "4 to the 15: 1073741824", x.graph(), 9, 1073741824L - 1000000007L);
    }

    /** Nodes 0 .. 12 in a row, each with so many arcs to a node that stands for all others. */
    private static final int[] SPOKES = {2, 5, 3, 4, 4, 3, 2, 6, 2, 5, 2, 2, 5};

    private static void row(GraphEngine x, int nodes) {
        x.begin(nodes, false);
        for (int v = 0; v < 12; v++) x.arc(v, v + 1, 0, 0);
    }

    private static void treesWhoseNumberIsTheModulus() {
        Check.test("Promise 23: 9 TREES, 0 where there are just 1000000007");
        GraphEngine x = new GraphEngine();
        row(x, 14);
        for (int v = 0; v < 13; v++) {
            for (int k = 0; k < SPOKES[v]; k++) x.arc(v, 13, 0, 0);
        }
        Expect.ask(x, "1000000007 trees", x.graph(), 9, 0);
        row(x, 14);
        for (int v = 0; v < 13; v++) {
            for (int k = v == 12 ? 1 : 0; k < SPOKES[v]; k++) x.arc(v, 13, 0, 0);
        }
        Expect.ask(x, "an arc less: 825560517", x.graph(), 9, 825560517L);
    }

    /** The first 13 nodes alone tell 0 modulo 1000000007, though all of them do not. */
    private static void treesOverWhatIsTheModulus() {
        Check.test("Promise 23: 9 TREES, modulo 1000000007, over a part that is 0");
        GraphEngine x = new GraphEngine();
        row(x, 15);
        for (int v = 0; v < 13; v++) {
            for (int k = 0; k < SPOKES[v]; k++) x.arc(v, 13 + k % 2, 0, 0);
        }
        Expect.ask(x, "11003091012 trees", x.graph(), 9, 11003091012L - 11 * 1000000007L);
    }

    private static void lightOfNothing() {
        Check.test("Promise 23: 10 LIGHT, 0 without arcs");
        GraphEngine x = new GraphEngine();
        Expect.ask(x, "one node", x.graph(), 10, 0);
        Expect.ask(x, "16 nodes", Make.graph(x, 16, true), 10, 0);
    }

    private static void lightOfWhatIsApart() {
        Check.test("Promise 23: 10 LIGHT, what hangs together hangs together, the rest stays apart");
        GraphEngine x = new GraphEngine();
        int g = Make.graph(x, 6, false, a(0, 1, 5), a(1, 2, 7), a(0, 2, 6), a(3, 4, 100));
        Expect.ask(x, "three, two and one", g, 10, 111);
        amongAre(x, "three, two and one", g, 1, 0, 1, 1);
    }

    private static void lightBelowZero() {
        Check.test("Promise 23: 10 LIGHT, none of them too many, though below 0");
        GraphEngine x = new GraphEngine();
        int g = Make.graph(x, 3, false, a(0, 1, -5), a(0, 1, -4), a(1, 2, -3), a(0, 2, -2));
        Expect.ask(x, "two arcs of four", g, 10, -8);
        amongAre(x, "two arcs of four", g, 1, 0, 1, 0);
        x.begin(16, false);
        for (int v = 0; v < 15; v++) x.arc(v, v + 1, -1000, 0);
        Expect.ask(x, "the least there is", x.graph(), 10, -15000);
    }

    private static void lightWithoutLoops() {
        Check.test("Promise 23: 10 LIGHT, a loop is always too many");
        GraphEngine x = new GraphEngine();
        int g = Make.graph(x, 2, true, a(0, 0, -9), a(0, 1, 3), a(1, 1, -1000));
        Expect.ask(x, "loops", g, 10, 3);
        amongAre(x, "loops", g, 0, 1, 0);
    }

    private static void lightDirections() {
        Check.test("Promise 23: 10 LIGHT, directions do not count");
        GraphEngine x = new GraphEngine();
        int g = Make.graph(x, 3, true, a(1, 0, 4), a(1, 2, 5), a(0, 2, 6), a(0, 1, 3));
        Expect.ask(x, "directed", g, 10, 8);
        amongAre(x, "directed", g, 0, 1, 0, 1);
        int back = Make.graph(x, 3, true, a(1, 0, 1), a(0, 1, 2), a(2, 0, 3), a(1, 2, 4));
        Expect.ask(x, "all to node 0", back, 10, 4);
        amongAre(x, "all to node 0", back, 1, 0, 1, 0);
    }

    private static void among() {
        Check.test("Promise 23: 11 whether arc x is among these (1)");
        GraphEngine x = new GraphEngine();
        int g = Make.graph(x, 4, false, a(0, 1, 9), a(1, 2, 1), a(2, 3, 2), a(3, 0, 3), a(0, 2, 1));
        amongAre(x, "four nodes", g, 0, 1, 1, 0, 1);
    }

    private static void amongLesserNumbers() {
        Check.test("Promise 23: 11 of arcs of one weight those with lesser numbers are taken");
        GraphEngine x = new GraphEngine();
        amongAre(x, "four of one weight", Make.graph(x, 3, false, a(0, 1, 2), a(0, 1, 2), a(1, 2, 2), a(0, 2, 2)), 1, 0, 1, 0);
        amongAre(x, "the last one is the lightest", Make.graph(x, 2, true, a(0, 1, 2), a(1, 0, 2), a(0, 1, 1)), 0, 0, 1);
        int full = Make.graph(x, 2, true, Make.times(60, 0, 1, 7));
        Expect.ask(x, "the first of 60", full, 11, 0, 0, 1);
        Expect.ask(x, "the last of 60", full, 11, 59, 0, 0);
        Make.draft(x, 2, true, Make.times(59, 0, 1, 7));
        x.arc(1, 0, 6, 0);
        Expect.ask(x, "arc 59, the lightest", x.graph(), 11, 59, 0, 1);
    }

    private static void amongIsWhatLightSums() {
        Check.test("Promise 23: 11 the arcs of 10");
        GraphEngine x = new GraphEngine();
        x.begin(8, false);
        for (int i = 0; i < 28; i++) x.arc(i % 8, (i * 3 + i / 8 + 1) % 8, (i * 37 + 11) % 100 - 30, 0);
        int g = x.graph();
        long sum = 0;
        for (int i = 0; i < 28; i++) sum += x.ask(g, 11, i, 0) * x.of(g, 5, i);
        Expect.ask(x, "their sum", g, 10, sum);
    }
}
