/** Promise 23, ask: 0 THE ORDER, 1 RING, 2 SIDE. */
public final class Promise23AskOrderTest {
    public static void main(String[] args) {
        order();
        lesserFirst();
        noOrderByRing();
        noOrderByLoop();
        orderNotDirected();
        orderWithoutArcs();
        noRing();
        ringOfOne();
        ringOfTwo();
        noArcTwice();
        leastRing();
        ringsGoWithTheArcs();
        greatestRing();
        sides();
        leastNodeHasSideZero();
        noSides();
        loopIsAnArc();
        sidesWithoutArcs();
        Check.end();
    }

    private static int[] a(int... numbers) {
        return numbers;
    }

    private static void orderIs(GraphEngine x, String name, int g, int... want) {
        for (int place = 0; place < want.length; place++) {
            Expect.ask(x, name, g, 0, place, 0, want[place]);
        }
    }

    private static void order() {
        Check.test("Promise 23: 0 THE ORDER, no arc leads back");
        GraphEngine x = new GraphEngine();
        int row = Make.graph(x, 4, true, a(3, 2), a(2, 1), a(1, 0), a(3, 0), a(3, 2));
        orderIs(x, "one order alone", row, 3, 2, 1, 0);
    }

    private static void lesserFirst() {
        Check.test("Promise 23: 0 THE ORDER, the lesser node at the first place at which two differ");
        GraphEngine x = new GraphEngine();
        int g = Make.graph(x, 5, true, a(4, 1), a(1, 0), a(3, 0), a(4, 2), a(4, 2));
        orderIs(x, "a free node as soon as it is the least", g, 3, 4, 1, 0, 2);
        int h = Make.graph(x, 4, true, a(3, 0), a(1, 2));
        orderIs(x, "a lesser one that comes free goes first", h, 1, 2, 3, 0);
    }

    private static void noOrderByRing() {
        Check.test("Promise 23: 0 THE ORDER, -1 if there is none: a ring, at every place");
        GraphEngine x = new GraphEngine();
        int ring = Make.graph(x, 4, true, a(2, 3), a(3, 2), a(0, 1));
        orderIs(x, "a ring", ring, -1, -1, -1, -1);
        orderIs(x, "a ring of 16", Make.ring(x, 16, true), -1, -1);
    }

    private static void noOrderByLoop() {
        Check.test("Promise 23: 0 THE ORDER, -1: an arc to its own node");
        GraphEngine x = new GraphEngine();
        orderIs(x, "a loop", Make.graph(x, 3, true, a(0, 1), a(2, 2)), -1, -1, -1);
        orderIs(x, "a loop of one node", Make.graph(x, 1, true, a(0, 0)), -1);
    }

    private static void orderNotDirected() {
        Check.test("Promise 23: 0 THE ORDER, -1 also of one that is not directed and has an arc");
        GraphEngine x = new GraphEngine();
        orderIs(x, "an arc", Make.graph(x, 3, false, a(0, 1)), -1, -1, -1);
        orderIs(x, "a loop", Make.graph(x, 1, false, a(0, 0)), -1);
        orderIs(x, "no arc", Make.graph(x, 3, false), 0, 1, 2);
    }

    private static void orderWithoutArcs() {
        Check.test("Promise 23: 0 THE ORDER of nodes without arcs");
        GraphEngine x = new GraphEngine();
        orderIs(x, "one node", x.graph(), 0);
        orderIs(x, "16 nodes", Make.graph(x, 16, true), 0, 1, 2, 3, 4, 5, 6, 7, 8, 9, 10, 11, 12, 13, 14, 15);
    }

    private static void noRing() {
        Check.test("Promise 23: 1 RING, 0 if there is none");
        GraphEngine x = new GraphEngine();
        Expect.ask(x, "one node", x.graph(), 1, 0);
        Expect.ask(x, "no arc leads back", Make.graph(x, 3, true, a(0, 1), a(1, 2), a(0, 2)), 1, 0);
        Expect.ask(x, "a tree", Make.graph(x, 5, false, a(0, 1), a(1, 2), a(3, 2), a(3, 4)), 1, 0);
    }

    private static void ringOfOne() {
        Check.test("Promise 23: 1 RING, one arc at least: a loop");
        GraphEngine x = new GraphEngine();
        Expect.ask(x, "directed", Make.graph(x, 2, true, a(0, 1), a(1, 0), a(1, 1)), 1, 1);
        Expect.ask(x, "not directed", Make.graph(x, 2, false, a(0, 1), a(1, 0), a(0, 0)), 1, 1);
        Expect.ask(x, "one node", Make.graph(x, 1, false, a(0, 0)), 1, 1);
        Expect.ask(x, "directed, node 0 alone", Make.graph(x, 3, true, a(0, 0), a(0, 1)), 1, 1);
        Expect.ask(x, "directed, the last node alone", Make.graph(x, 16, true, a(0, 1), a(15, 15)), 1, 1);
    }

    private static void ringOfTwo() {
        Check.test("Promise 23: 1 RING of two arcs");
        GraphEngine x = new GraphEngine();
        Expect.ask(x, "directed, there and back", Make.graph(x, 2, true, a(0, 1), a(1, 0)), 1, 2);
        Expect.ask(x, "not directed, two arcs", Make.graph(x, 2, false, a(0, 1), a(0, 1)), 1, 2);
        Expect.ask(x, "not directed, two arcs, one turned", Make.graph(x, 2, false, a(0, 1), a(1, 0)), 1, 2);
    }

    private static void noArcTwice() {
        Check.test("Promise 23: 1 RING, without going over an arc twice");
        GraphEngine x = new GraphEngine();
        Expect.ask(x, "there and back by one arc", Make.graph(x, 2, false, a(0, 1)), 1, 0);
        Expect.ask(x, "a row", Make.graph(x, 3, false, a(0, 1), a(1, 2)), 1, 0);
    }

    private static void leastRing() {
        Check.test("Promise 23: 1 RING, the least number of arcs");
        GraphEngine x = new GraphEngine();
        int[][] rows = {a(0, 1), a(1, 2), a(2, 3), a(3, 4), a(4, 0), a(5, 6), a(6, 7), a(7, 8), a(8, 5)};
        Expect.ask(x, "of five and four, directed", Make.graph(x, 9, true, rows), 1, 4);
        Expect.ask(x, "of five and four, not directed", Make.graph(x, 9, false, rows), 1, 4);
        int[][] turned = {a(0, 1), a(1, 2), a(2, 3), a(3, 0), a(4, 5), a(5, 6), a(6, 7), a(7, 8), a(8, 4), a(8, 9)};
        Expect.ask(x, "of four and five, and a tail, directed", Make.graph(x, 10, true, turned), 1, 4);
        Expect.ask(x, "of four and five, and a tail, not directed", Make.graph(x, 10, false, turned), 1, 4);
        int tail = Make.graph(x, 6, false, a(5, 0), a(0, 1), a(1, 2), a(2, 0), a(2, 3), a(3, 4));
        Expect.ask(x, "tails before and behind", tail, 1, 3);
        int chord = Make.graph(x, 5, false, a(0, 1), a(1, 2), a(2, 3), a(3, 4), a(4, 0), a(1, 3));
        Expect.ask(x, "a chord", chord, 1, 3);
    }

    private static void ringsGoWithTheArcs() {
        Check.test("Promise 23: 1 RING, directed arcs are gone one way alone");
        GraphEngine x = new GraphEngine();
        Expect.ask(x, "two arcs the same way", Make.graph(x, 2, true, a(0, 1), a(0, 1)), 1, 0);
        Expect.ask(x, "three, one turned", Make.graph(x, 3, true, a(0, 1), a(1, 2), a(0, 2)), 1, 0);
        int longer = Make.graph(x, 4, true, a(0, 1), a(1, 2), a(2, 3), a(3, 0), a(0, 2));
        Expect.ask(x, "three by the chord", longer, 1, 3);
        int four = Make.graph(x, 4, true, a(0, 1), a(1, 2), a(2, 3), a(3, 0), a(1, 0), a(0, 0));
        Expect.ask(x, "without loops two", x.view(four, 2, 0), 1, 2);
    }

    private static void greatestRing() {
        Check.test("Promise 23: 1 RING of all 16 nodes");
        GraphEngine x = new GraphEngine();
        Expect.ask(x, "directed", Make.ring(x, 16, true), 1, 16);
        Expect.ask(x, "not directed", Make.ring(x, 16, false), 1, 16);
    }

    private static void sidesAre(GraphEngine x, String name, int g, int... want) {
        for (int v = 0; v < want.length; v++) {
            Expect.ask(x, name, g, 2, v, 0, want[v]);
        }
    }

    private static void sides() {
        Check.test("Promise 23: 2 SIDE, the ends of each arc differ");
        GraphEngine x = new GraphEngine();
        int[][] rows = {a(0, 1), a(2, 1), a(2, 3), a(0, 3), a(0, 1), a(3, 4)};
        sidesAre(x, "directed", Make.graph(x, 5, true, rows), 0, 1, 0, 1, 0);
        sidesAre(x, "not directed", Make.graph(x, 5, false, rows), 0, 1, 0, 1, 0);
        sidesAre(x, "a ring of 16", Make.ring(x, 16, true), 0, 1, 0, 1, 0, 1, 0, 1, 0, 1, 0, 1, 0, 1, 0, 1);
    }

    private static void leastNodeHasSideZero() {
        Check.test("Promise 23: 2 SIDE, 0 for the least node of all that hangs together");
        GraphEngine x = new GraphEngine();
        int g = Make.graph(x, 6, true, a(5, 1), a(3, 1), a(3, 4), a(2, 0));
        sidesAre(x, "two that hang together", g, 0, 0, 1, 1, 0, 1);
    }

    private static void noSides() {
        Check.test("Promise 23: 2 SIDE, -1 if not, of every node");
        GraphEngine x = new GraphEngine();
        int odd = Make.graph(x, 5, false, a(0, 1), a(2, 3), a(3, 4), a(4, 2));
        sidesAre(x, "a ring of three elsewhere", odd, -1, -1, -1, -1, -1);
        sidesAre(x, "three arcs that lead nowhere back", Make.graph(x, 3, true, a(0, 1), a(0, 2), a(1, 2)), -1, -1, -1);
        sidesAre(x, "a ring of 15", Make.ring(x, 15, true), -1, -1, -1);
    }

    private static void loopIsAnArc() {
        Check.test("Promise 23: 2 SIDE, -1: a loop is an arc");
        GraphEngine x = new GraphEngine();
        sidesAre(x, "a loop elsewhere", Make.graph(x, 3, true, a(0, 1), a(2, 2)), -1, -1, -1);
        sidesAre(x, "one node", Make.graph(x, 1, false, a(0, 0)), -1);
    }

    private static void sidesWithoutArcs() {
        Check.test("Promise 23: 2 SIDE of nodes without arcs: 0");
        GraphEngine x = new GraphEngine();
        sidesAre(x, "one node", x.graph(), 0);
        sidesAre(x, "16 nodes", Make.graph(x, 16, false), new int[16]);
    }
}
