/** Promise 23, ask: 12 FLOW, 13 CUT, 14 PRICE, 15 APART. */
public final class Promise23AskFlowTest {
    public static void main(String[] args) {
        flow();
        asMuchAsComes();
        belowZeroNothing();
        noFlow();
        eitherWay();
        severalArcs();
        flowLoops();
        backFlow();
        flowGivesWay();
        flowTurnsRound();
        theMost();
        cut();
        leastCut();
        cutOfNoFlow();
        cutNotDirected();
        price();
        costBelowZero();
        priceOfNoFlow();
        cheapestOfTheMost();
        priceTakesBack();
        priceNotDirected();
        theDearest();
        apart();
        apartWeights();
        apartMayShareNodes();
        apartNotDirected();
        apartMany();
        Check.end();
    }

    private static int[] a(int... numbers) {
        return numbers;
    }

    private static void flow() {
        Check.test("Promise 23: 12 FLOW, the most that can go, by each arc its weight at most");
        GraphEngine x = new GraphEngine();
        int one = Make.graph(x, 2, true, a(0, 1, 7));
        Expect.ask(x, "one arc", one, 12, 0, 1, 7);
        int g = Make.graph(x, 6, true, a(0, 1, 7), a(0, 2, 9), a(1, 3, 4), a(2, 1, 5), a(2, 4, 3), a(3, 5, 9), a(4, 5, 9), a(1, 4, 2));
        Expect.ask(x, "six nodes", g, 12, 0, 5, 9);
    }

    private static void asMuchAsComes() {
        Check.test("Promise 23: 12 FLOW, by each other node as much as comes");
        GraphEngine x = new GraphEngine();
        int g = Make.graph(x, 3, true, a(0, 1, 10), a(1, 2, 4));
        Expect.ask(x, "less goes on", g, 12, 0, 2, 4);
        int h = Make.graph(x, 3, true, a(0, 1, 3), a(1, 2, 40));
        Expect.ask(x, "less comes", h, 12, 0, 2, 3);
    }

    private static void belowZeroNothing() {
        Check.test("Promise 23: 12 FLOW, by an arc below 0 nothing");
        GraphEngine x = new GraphEngine();
        int g = Make.graph(x, 2, true, a(0, 1, 0, 5), a(0, 1, -1000, 5), a(0, 1, 3, 5));
        Expect.ask(x, "3 alone", g, 12, 0, 1, 3);
        int u = Make.graph(x, 2, false, a(0, 1, -3, 5), a(0, 1, 2, 5));
        Expect.ask(x, "not directed, 2 alone", u, 12, 0, 1, 2);
        int none = Make.graph(x, 2, true, a(0, 1, -1));
        Expect.ask(x, "nothing", none, 12, 0, 1, 0);
    }

    private static void noFlow() {
        Check.test("Promise 23: 12 FLOW, 0 where one does not get");
        GraphEngine x = new GraphEngine();
        int g = Make.graph(x, 3, true, a(1, 0, 5), a(0, 2, 5));
        Expect.ask(x, "against the arc", g, 12, 0, 1, 0);
        Expect.ask(x, "no arcs", Make.graph(x, 2, false), 12, 1, 0, 0);
    }

    private static void eitherWay() {
        Check.test("Promise 23: 12 FLOW, not directed: either way");
        GraphEngine x = new GraphEngine();
        int g = Make.graph(x, 4, false, a(1, 0, 3), a(1, 2, 2), a(3, 2, 9), a(0, 3, 1));
        Expect.ask(x, "there", g, 12, 0, 2, 3);
        Expect.ask(x, "back", g, 12, 2, 0, 3);
        int bridge = Make.graph(x, 4, false, a(0, 1, 1), a(0, 2, 1), a(2, 1, 1), a(1, 3, 2), a(2, 3, 1));
        Expect.ask(x, "over the bar between", bridge, 12, 0, 3, 2);
        Expect.ask(x, "from the other end", bridge, 12, 3, 1, 3);
    }

    private static void severalArcs() {
        Check.test("Promise 23: 12 FLOW, each of several arcs with the same ends");
        GraphEngine x = new GraphEngine();
        int g = Make.graph(x, 2, true, a(0, 1, 3), a(0, 1, 4), a(1, 0, 100));
        Expect.ask(x, "there", g, 12, 0, 1, 7);
        Expect.ask(x, "back", g, 12, 1, 0, 100);
    }

    private static void flowLoops() {
        Check.test("Promise 23: 12 FLOW, a loop brings nothing");
        GraphEngine x = new GraphEngine();
        int[][] rows = {a(0, 0, 1000, 9), a(0, 1, 3, 1), a(1, 1, 1000, 9), a(1, 2, 2, 1), a(2, 2, 1000, 9)};
        for (int k = 0; k < 2; k++) {
            int g = Make.graph(x, 3, k == 0, rows);
            Expect.ask(x, "flow", g, 12, 0, 2, 2);
            Expect.ask(x, "cut", g, 13, 0, 2, 0b011);
            Expect.ask(x, "price", g, 14, 0, 2, 4);
            Expect.ask(x, "apart", g, 15, 0, 2, 1);
        }
    }

    private static void backFlow() {
        Check.test("Promise 23: 12 FLOW, arcs into x and out of y bring nothing");
        GraphEngine x = new GraphEngine();
        int g = Make.graph(x, 3, true, a(1, 0, 50), a(0, 1, 3), a(1, 2, 50), a(2, 0, 50), a(2, 1, 50));
        Expect.ask(x, "flow", g, 12, 0, 2, 3);
        Expect.ask(x, "cut", g, 13, 0, 2, 0b001);
    }

    /** 0 sends to 1 and 2; 1 can go on by 3 or 4, 2 by 3 alone. */
    private static void flowGivesWay() {
        Check.test("Promise 23: 12 FLOW, 15 APART, what went first may have to give way");
        GraphEngine x = new GraphEngine();
        int[][] rows = {a(0, 1, 1), a(0, 2, 1), a(1, 3, 1), a(1, 4, 1), a(2, 3, 1), a(3, 5, 1), a(4, 5, 1)};
        for (int k = 0; k < 2; k++) {
            int g = Make.graph(x, 6, k == 0, rows);
            Expect.ask(x, "flow", g, 12, 0, 5, 2);
            Expect.ask(x, "cut", g, 13, 0, 5, 1);
            Expect.ask(x, "apart", g, 15, 0, 5, 2);
        }
    }

    private static void flowTurnsRound() {
        Check.test("Promise 23: 12 FLOW, not directed: what went one way by an arc, and then more the other way");
        GraphEngine x = new GraphEngine();
        int g = Make.graph(x, 6, false, a(0, 1, 1), a(0, 2, 3), a(2, 3, 3), a(1, 3, 1), a(1, 4, 3), a(4, 5, 3), a(3, 5, 1));
        Expect.ask(x, "flow", g, 12, 0, 5, 3);
        Expect.ask(x, "cut", g, 13, 0, 5, 0b001101);
    }

    private static void theMost() {
        Check.test("Promise 23: 12 FLOW, 60 arcs of 1000");
        GraphEngine x = new GraphEngine();
        int g = Make.graph(x, 2, true, Make.times(60, 0, 1, 1000, 1000));
        Expect.ask(x, "directed", g, 12, 0, 1, 60000);
        Expect.ask(x, "not directed", x.view(g, 1, 0), 12, 1, 0, 60000);
    }

    private static void cut() {
        Check.test("Promise 23: 13 CUT, a set with x but not y out of which no more can go");
        GraphEngine x = new GraphEngine();
        int g = Make.graph(x, 4, true, a(0, 1, 9), a(1, 2, 3), a(2, 3, 9), a(0, 2, 1));
        Expect.ask(x, "in the middle", g, 13, 0, 3, 0b0011);
        Expect.ask(x, "at the end", Make.graph(x, 3, true, a(0, 1, 9), a(1, 2, 3)), 13, 0, 2, 0b011);
        Expect.ask(x, "at once", Make.graph(x, 3, true, a(0, 1, 2), a(1, 2, 3)), 13, 0, 2, 0b001);
        int last = Make.graph(x, 16, true, a(15, 14, 9), a(14, 0, 3));
        Expect.ask(x, "from node 15", last, 13, 15, 0, 0xC000);
    }

    private static void leastCut() {
        Check.test("Promise 23: 13 CUT, of several the least set");
        GraphEngine x = new GraphEngine();
        int row = Make.graph(x, 4, true, a(0, 1, 3), a(1, 2, 3), a(2, 3, 3));
        Expect.ask(x, "x alone", row, 13, 0, 3, 0b0001);
        int back = Make.graph(x, 4, true, a(3, 2, 3), a(2, 1, 3), a(1, 0, 3));
        Expect.ask(x, "x alone, though it is the highest", back, 13, 3, 0, 0b1000);
        int u = Make.graph(x, 4, false, a(0, 1, 3), a(1, 2, 3), a(2, 3, 3));
        Expect.ask(x, "not directed", u, 13, 3, 0, 0b1000);
    }

    private static void cutOfNoFlow() {
        Check.test("Promise 23: 13 CUT of no flow: where something gets from x");
        GraphEngine x = new GraphEngine();
        int g = Make.graph(x, 5, true, a(1, 0, 5), a(0, 2, 5), a(2, 3, 0), a(0, 3, -7), a(2, 4, 1));
        Expect.ask(x, "some nodes", g, 13, 0, 1, 0b10101);
        Expect.ask(x, "no arcs", Make.graph(x, 2, false), 13, 1, 0, 0b10);
    }

    private static void cutNotDirected() {
        Check.test("Promise 23: 13 CUT, not directed");
        GraphEngine x = new GraphEngine();
        int g = Make.graph(x, 4, false, a(1, 0, 3), a(1, 2, 2), a(3, 2, 9), a(0, 3, 1));
        Expect.ask(x, "there", g, 13, 0, 2, 0b0011);
        Expect.ask(x, "back", g, 13, 2, 0, 0b1100);
    }

    private static void price() {
        Check.test("Promise 23: 14 PRICE, cost times what goes by each arc");
        GraphEngine x = new GraphEngine();
        int g = Make.graph(x, 3, true, a(0, 1, 3, 2), a(1, 2, 2, 5), a(0, 2, 4, 7));
        Expect.ask(x, "two ways", g, 14, 0, 2, 2 * (2 + 5) + 4 * 7);
    }

    private static void costBelowZero() {
        Check.test("Promise 23: 14 PRICE, cost below 0 as 0");
        GraphEngine x = new GraphEngine();
        int g = Make.graph(x, 3, true, a(0, 1, 3, -1000), a(1, 2, 3, 4), a(1, 2, 2, -1), a(1, 0, 9, -500));
        Expect.ask(x, "2 for 0, 1 for 4", g, 14, 0, 2, 4);
        int u = Make.graph(x, 2, false, a(0, 1, 3, -9));
        Expect.ask(x, "not directed", u, 14, 0, 1, 0);
    }

    private static void priceOfNoFlow() {
        Check.test("Promise 23: 14 PRICE, 0 where nothing goes");
        GraphEngine x = new GraphEngine();
        Expect.ask(x, "against the arc", Make.graph(x, 2, true, a(1, 0, 5, 5)), 14, 0, 1, 0);
        Expect.ask(x, "a weight of 0", Make.graph(x, 2, true, a(0, 1, 0, 5)), 14, 0, 1, 0);
        Expect.ask(x, "a weight below 0", Make.graph(x, 2, true, a(0, 1, -5, 5)), 14, 0, 1, 0);
    }

    private static void cheapestOfTheMost() {
        Check.test("Promise 23: 14 PRICE, when the most goes, not less of it");
        GraphEngine x = new GraphEngine();
        int g = Make.graph(x, 2, true, a(0, 1, 1, 1), a(0, 1, 1, 1000));
        Expect.ask(x, "both arcs", g, 14, 0, 1, 1001);
        int h = Make.graph(x, 3, true, a(0, 1, 2, 0), a(1, 2, 2, 9), a(1, 2, 2, 3));
        Expect.ask(x, "the cheaper of two", h, 14, 0, 2, 6);
    }

    private static void priceTakesBack() {
        Check.test("Promise 23: 14 PRICE, the least sum of all, though the cheapest way must give way");
        GraphEngine x = new GraphEngine();
        int g = Make.graph(x, 4, true, a(0, 1, 1, 1), a(0, 2, 1, 10), a(1, 2, 1, 1), a(1, 3, 1, 10), a(2, 3, 1, 1));
        Expect.ask(x, "22, not 3 and more", g, 14, 0, 3, 22);
        int h = Make.graph(x, 4, true, a(0, 1, 4, 1), a(0, 2, 2, 10), a(1, 2, 3, 1), a(1, 3, 3, 10), a(2, 3, 4, 1));
        Expect.ask(x, "more at a time", h, 14, 0, 3, 4 + 20 + 2 + 20 + 4);
    }

    private static void priceNotDirected() {
        Check.test("Promise 23: 14 PRICE, not directed: either way for the same cost");
        GraphEngine x = new GraphEngine();
        int g = Make.graph(x, 4, false, a(1, 0, 3, 2), a(1, 2, 2, 4), a(3, 2, 9, 1), a(0, 3, 1, 100));
        Expect.ask(x, "there", g, 14, 0, 2, 2 * 6 + 101);
        Expect.ask(x, "back", g, 14, 2, 0, 2 * 6 + 101);
    }

    private static void theDearest() {
        Check.test("Promise 23: 14 PRICE, 60 arcs of 1000 for 1000 each");
        GraphEngine x = new GraphEngine();
        int g = Make.graph(x, 2, true, Make.times(60, 0, 1, 1000, 1000));
        Expect.ask(x, "directed", g, 14, 0, 1, 60000000);
        Expect.ask(x, "not directed", x.view(g, 1, 0), 14, 1, 0, 60000000);
    }

    private static void apart() {
        Check.test("Promise 23: 15 APART, ways of which no two have an arc in common");
        GraphEngine x = new GraphEngine();
        int g = Make.graph(x, 5, true, a(0, 1), a(1, 4), a(0, 2), a(2, 1), a(2, 4), a(0, 4), a(0, 4), a(4, 0));
        Expect.ask(x, "there", g, 15, 0, 4, 4);
        Expect.ask(x, "back", g, 15, 4, 0, 1);
        Expect.ask(x, "none", g, 15, 0, 3, 0);
        Expect.ask(x, "no arcs", Make.graph(x, 2, false), 15, 0, 1, 0);
    }

    private static void apartWeights() {
        Check.test("Promise 23: 15 APART, weights do not count");
        GraphEngine x = new GraphEngine();
        int g = Make.graph(x, 3, true, a(0, 1, -1000), a(1, 2, 0), a(0, 2, 1000));
        Expect.ask(x, "below 0, 0, and great", g, 15, 0, 2, 2);
    }

    private static void apartMayShareNodes() {
        Check.test("Promise 23: 15 APART, nodes may be in common");
        GraphEngine x = new GraphEngine();
        int g = Make.graph(x, 3, true, a(0, 1), a(0, 1), a(1, 2), a(1, 2));
        Expect.ask(x, "both over node 1", g, 15, 0, 2, 2);
    }

    private static void apartNotDirected() {
        Check.test("Promise 23: 15 APART, not directed: an arc either way, but once");
        GraphEngine x = new GraphEngine();
        int one = Make.graph(x, 2, false, a(1, 0));
        Expect.ask(x, "one arc there", one, 15, 0, 1, 1);
        Expect.ask(x, "one arc back", one, 15, 1, 0, 1);
        int row = Make.graph(x, 3, false, a(1, 0), a(0, 1), a(1, 2));
        Expect.ask(x, "two, then one", row, 15, 0, 2, 1);
        Expect.ask(x, "a ring", Make.ring(x, 16, false), 15, 3, 11, 2);
    }

    private static void apartMany() {
        Check.test("Promise 23: 15 APART, 60 arcs");
        GraphEngine x = new GraphEngine();
        int g = Make.graph(x, 2, true, Make.times(60, 0, 1, 0, 0));
        Expect.ask(x, "there", g, 15, 0, 1, 60);
        Expect.ask(x, "back", g, 15, 1, 0, 0);
    }
}
