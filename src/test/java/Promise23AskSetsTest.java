/** Promise 23, ask: 3, 4 greatest sets, 5 COLOURS, 6 WIDTH, 7 PAIRS, 8 MISSED. */
public final class Promise23AskSetsTest {
    public static void main(String[] args) {
        joinedSets();
        joinedLeastNumber();
        joinedOne();
        apartSets();
        apartLeastNumber();
        directionsAndLoops();
        colours();
        coloursWithoutArcs();
        coloursWithoutThrees();
        coloursOfAll();
        widthWithoutArcs();
        widths();
        widthOfAll();
        widthOfSeveral();
        pairsNone();
        pairsNoneTwice();
        pairsOdd();
        pairsAll();
        missedAll();
        missedNone();
        missedSome();
        Check.end();
    }

    private static int[] a(int... numbers) {
        return numbers;
    }

    private static void joinedSets() {
        Check.test("Promise 23: 3 the greatest set of nodes of which each two are joined");
        GraphEngine x = new GraphEngine();
        int g = Make.graph(x, 7, false, a(0, 1), a(1, 2), a(2, 0), a(3, 4), a(4, 5), a(5, 3), a(3, 6), a(4, 6), a(5, 6));
        Expect.ask(x, "four before three, though its number is greater", g, 3, 0b1111000);
        Expect.ask(x, "all", Make.allJoined(x, 11), 3, 2047);
        Expect.ask(x, "a ring of four has two", Make.ring(x, 4, false), 3, 0b0011);
    }

    private static void joinedLeastNumber() {
        Check.test("Promise 23: 3 of several the least number");
        GraphEngine x = new GraphEngine();
        int g = Make.graph(x, 5, false, a(0, 4), a(1, 3), a(3, 2));
        Expect.ask(x, "nodes 1 and 3, not 0 and 4", g, 3, 0b01010);
        int h = Make.graph(x, 6, false, a(5, 4), a(4, 3), a(3, 5), a(0, 5), a(0, 4), a(1, 2));
        Expect.ask(x, "nodes 0, 4, 5, not 3, 4, 5", h, 3, 0b110001);
    }

    private static void joinedOne() {
        Check.test("Promise 23: 3 where none are joined, one node, the least");
        GraphEngine x = new GraphEngine();
        Expect.ask(x, "one node", x.graph(), 3, 1);
        Expect.ask(x, "16 nodes", Make.graph(x, 16, true), 3, 1);
        Expect.ask(x, "the last two of 16", Make.graph(x, 16, true, a(15, 14)), 3, 0xC000);
    }

    private static void apartSets() {
        Check.test("Promise 23: 4 the greatest set of which no two are joined");
        GraphEngine x = new GraphEngine();
        int star = Make.graph(x, 5, false, a(0, 1), a(0, 2), a(0, 3), a(0, 4));
        Expect.ask(x, "the ends of a star", star, 4, 0b11110);
        Expect.ask(x, "one of all that are joined", Make.allJoined(x, 11), 4, 1);
        Expect.ask(x, "one node", Make.graph(x, 1, false), 4, 1);
        Expect.ask(x, "all of 16", Make.graph(x, 16, false), 4, 0xFFFF);
    }

    private static void apartLeastNumber() {
        Check.test("Promise 23: 4 of several the least number");
        GraphEngine x = new GraphEngine();
        Expect.ask(x, "a ring of four", Make.ring(x, 4, false), 4, 0b0101);
        Expect.ask(x, "two nodes", Make.graph(x, 2, true, a(1, 0)), 4, 0b01);
        int g = Make.graph(x, 5, false, a(0, 4), a(1, 3), a(3, 2));
        Expect.ask(x, "nodes 0, 1, 2, not 1, 2, 4", g, 4, 0b00111);
    }

    private static void directionsAndLoops() {
        Check.test("Promise 23, Terms 6: JOINED, directions and loops do not count");
        GraphEngine x = new GraphEngine();
        int[][] rows = {a(0, 1), a(2, 1), a(0, 2), a(2, 0), a(3, 3), a(3, 3), a(0, 1)};
        int g = Make.graph(x, 4, true, rows);
        int h = Make.graph(x, 4, false, rows);
        long[] want = {0, 0, 0, 0b0111, 0b1001, 3, 2, 1, 0b1111};
        for (int what = 3; what <= 8; what++) {
            Expect.ask(x, "directed", g, what, want[what]);
            Expect.ask(x, "not directed", h, what, want[what]);
        }
    }

    private static void colours() {
        Check.test("Promise 23: 5 COLOURS, joined nodes differ");
        GraphEngine x = new GraphEngine();
        Expect.ask(x, "two joined", Make.graph(x, 2, true, a(0, 1)), 5, 2);
        Expect.ask(x, "a ring of 16", Make.ring(x, 16, false), 5, 2);
        Expect.ask(x, "a ring of 15", Make.ring(x, 15, false), 5, 3);
        x.begin(6, false);
        for (int v = 0; v < 5; v++) {
            x.arc(v, (v + 1) % 5, 0, 0);
            x.arc(v, 5, 0, 0);
        }
        Expect.ask(x, "a wheel of five", x.graph(), 5, 4);
    }

    private static void coloursWithoutArcs() {
        Check.test("Promise 23: 5 COLOURS, one where none are joined");
        GraphEngine x = new GraphEngine();
        Expect.ask(x, "one node", x.graph(), 5, 1);
        Expect.ask(x, "a loop", Make.graph(x, 1, true, a(0, 0)), 5, 1);
        Expect.ask(x, "16 nodes", Make.graph(x, 16, false), 5, 1);
    }

    /** Groetzsch's graph: no three nodes joined with one another, and yet four colours. */
    private static void coloursWithoutThrees() {
        Check.test("Promise 23: 5 COLOURS, more than the greatest joined set has nodes");
        GraphEngine x = new GraphEngine();
        x.begin(11, false);
        for (int v = 0; v < 5; v++) {
            x.arc(v, (v + 1) % 5, 0, 0);
            x.arc(v + 5, (v + 1) % 5, 0, 0);
            x.arc(v + 5, (v + 4) % 5, 0, 0);
            x.arc(v + 5, 10, 0, 0);
        }
        int g = x.graph();
        Expect.ask(x, "two nodes joined at most", g, 3, 0b11);
        Expect.ask(x, "four colours", g, 5, 4);
    }

    private static void coloursOfAll() {
        Check.test("Promise 23: 5 COLOURS, all joined: as many as nodes");
        for (int n = 2; n <= 11; n++) {
            GraphEngine x = new GraphEngine();
            Expect.ask(x, n + " nodes", Make.allJoined(x, n), 5, n);
        }
    }

    private static void widthWithoutArcs() {
        Check.test("Promise 23: 6 WIDTH, 0 where none are joined");
        GraphEngine x = new GraphEngine();
        Expect.ask(x, "one node", x.graph(), 6, 0);
        Expect.ask(x, "loops", Make.graph(x, 16, true, a(1, 1), a(15, 15)), 6, 0);
    }

    private static void widths() {
        Check.test("Promise 23: 6 WIDTH, the greatest number of nodes joined with one as it goes, in the best order");
        GraphEngine x = new GraphEngine();
        Expect.ask(x, "a tree", Make.graph(x, 5, true, a(0, 1), a(1, 2), a(1, 3), a(3, 4)), 6, 1);
        Expect.ask(x, "a ring of 16", Make.ring(x, 16, true), 6, 2);
        x.begin(16, false);
        for (int v = 0; v < 16; v++) {
            if (v % 4 != 3) x.arc(v, v + 1, 0, 0);
            if (v < 12) x.arc(v, v + 4, 0, 0);
        }
        Expect.ask(x, "four by four", x.graph(), 6, 4);
        x.begin(10, false);
        for (int v = 0; v < 5; v++) for (int u = 5; u < 10; u++) x.arc(u, v, 0, 0);
        Expect.ask(x, "five with five", x.graph(), 6, 5);
        x.begin(10, false);
        for (int v = 0; v < 5; v++) {
            x.arc(v, (v + 1) % 5, 0, 0);
            x.arc(v, v + 5, 0, 0);
            x.arc(v + 5, (v + 2) % 5 + 5, 0, 0);
        }
        Expect.ask(x, "Petersen's", x.graph(), 6, 4);
    }

    private static void widthOfAll() {
        Check.test("Promise 23: 6 WIDTH, all joined: one less than nodes");
        for (int n = 2; n <= 11; n++) {
            GraphEngine x = new GraphEngine();
            Expect.ask(x, n + " nodes", Make.allJoined(x, n), 6, n - 1);
        }
    }

    private static void widthOfSeveral() {
        Check.test("Promise 23: 6 WIDTH of what does not hang together: the greatest");
        GraphEngine x = new GraphEngine();
        int four = Make.allJoined(x, 4);
        int ring = Make.ring(x, 5, false);
        int one = Make.graph(x, 1, false);
        Expect.ask(x, "four joined, then a ring", x.join(four, ring, false), 6, 3);
        Expect.ask(x, "a ring, then four joined", x.join(ring, four, false), 6, 3);
        Expect.ask(x, "a node, then a ring", x.join(one, ring, false), 6, 2);
    }

    private static void pairsNone() {
        Check.test("Promise 23: 7 PAIRS, none where none are joined");
        GraphEngine x = new GraphEngine();
        Expect.ask(x, "one node", x.graph(), 7, 0);
        Expect.ask(x, "loops", Make.graph(x, 3, true, a(1, 1), a(2, 2)), 7, 0);
    }

    private static void pairsNoneTwice() {
        Check.test("Promise 23: 7 PAIRS, no node twice");
        GraphEngine x = new GraphEngine();
        Expect.ask(x, "a star", Make.graph(x, 5, false, a(0, 1), a(0, 2), a(0, 3), a(0, 4)), 7, 1);
        Expect.ask(x, "several arcs of one pair", Make.graph(x, 2, true, a(0, 1), a(1, 0), a(0, 1)), 7, 1);
        Expect.ask(x, "a row where the first pair must give way", Make.graph(x, 4, true, a(1, 2), a(0, 1), a(2, 3)), 7, 2);
    }

    private static void pairsOdd() {
        Check.test("Promise 23: 7 PAIRS over rings of odd length");
        GraphEngine x = new GraphEngine();
        Expect.ask(x, "a ring of 15", Make.ring(x, 15, false), 7, 7);
        int g = Make.graph(x, 8, false, a(0, 1), a(1, 2), a(2, 0), a(2, 3), a(3, 4), a(4, 5), a(5, 3), a(0, 6), a(5, 7));
        Expect.ask(x, "two rings of three with tails", g, 7, 4);
    }

    private static void pairsAll() {
        Check.test("Promise 23: 7 PAIRS, eight of 16 nodes");
        GraphEngine x = new GraphEngine();
        Expect.ask(x, "a ring of 16", Make.ring(x, 16, false), 7, 8);
    }

    private static void missedAll() {
        Check.test("Promise 23: 8 MISSED, all nodes");
        GraphEngine x = new GraphEngine();
        Expect.ask(x, "one node", x.graph(), 8, 1);
        Expect.ask(x, "none joined", Make.graph(x, 16, true, a(3, 3)), 8, 0xFFFF);
        Expect.ask(x, "a ring of 15", Make.ring(x, 15, false), 8, 0x7FFF);
    }

    private static void missedNone() {
        Check.test("Promise 23: 8 MISSED, none where each choice has all nodes");
        GraphEngine x = new GraphEngine();
        Expect.ask(x, "two nodes", Make.graph(x, 2, true, a(1, 0)), 8, 0);
        Expect.ask(x, "a ring of 16", Make.ring(x, 16, false), 8, 0);
        Expect.ask(x, "a row of four", Make.graph(x, 4, false, a(0, 1), a(1, 2), a(2, 3)), 8, 0);
    }

    private static void missedSome() {
        Check.test("Promise 23: 8 MISSED, nodes in no pair of some greatest choice");
        GraphEngine x = new GraphEngine();
        Expect.ask(x, "a row of five", Make.graph(x, 5, true, a(0, 1), a(1, 2), a(2, 3), a(3, 4)), 8, 0b10101);
        Expect.ask(x, "a star", Make.graph(x, 4, false, a(3, 0), a(3, 1), a(3, 2)), 8, 0b0111);
        Expect.ask(x, "a node beside a pair", Make.graph(x, 3, false, a(0, 2)), 8, 0b010);
        int two = Make.graph(x, 7, false, a(0, 1), a(1, 2), a(2, 0), a(2, 3), a(3, 4), a(4, 5), a(5, 6), a(6, 4));
        Expect.ask(x, "rings of three at a node between", two, 8, 0b1110111);
    }
}
