/** Promise 5, view: PART, HEAVY, SQUARED and LINES. */
public final class Promise05ViewMoreTest {
    public static void main(String[] args) {
        partWithoutNodes();
        partWithOtherBits();
        partNumbersAnew();
        partOfOneAndOfAll();
        heavyOrEqual();
        heavyFarOff();
        squaredTwoArcs();
        squaredTheSameTwice();
        squaredOrder();
        squaredLeastSum();
        squaredClamped();
        squaredSixty();
        squaredSixtyNotDirected();
        linesNoneOrTooMany();
        linesDirected();
        linesNotDirected();
        linesSixty();
        linesSixtyNotDirected();
        failedLeavesNothing();
        Check.end();
    }

    private static int[] a(int... numbers) {
        return numbers;
    }

    private static void partWithoutNodes() {
        Check.test("Promise 5, Terms 2: PART, x must have some of its nodes");
        GraphEngine x = new GraphEngine();
        int g = Make.graph(x, 5, true, a(0, 1));
        Check.refused(x, "no node", x.view(g, 4, 0), -3);
    }

    private static void partWithOtherBits() {
        Check.test("Promise 5, Terms 2: PART, x must have no other bits");
        GraphEngine x = new GraphEngine();
        int five = Make.graph(x, 5, true, a(0, 1));
        for (int set : new int[] {0b100000, 0b100001, 0b111111, -1, Integer.MIN_VALUE, Integer.MIN_VALUE | 1, Integer.MAX_VALUE}) {
            Check.refused(x, "set " + set + " of 5 nodes", x.view(five, 4, set), -3);
        }
        int sixteen = Make.graph(x, 16, false);
        for (int set : new int[] {0x10000, 0x1FFFF, -1}) {
            Check.refused(x, "set " + set + " of 16 nodes", x.view(sixteen, 4, set), -3);
        }
        int one = Make.graph(x, 1, false);
        Check.refused(x, "set 2 of one node", x.view(one, 4, 2), -3);
        Check.refused(x, "set 3 of one node", x.view(one, 4, 3), -3);
    }

    private static void partNumbersAnew() {
        Check.test("Promise 5, Terms 2: PART numbers nodes by their order, and keeps arcs between them");
        GraphEngine x = new GraphEngine();
        int g = Make.graph(x, 5, true, a(0, 1, 1, 1), a(4, 2, 2, 2), a(2, 2, 3, 3), a(2, 3, 4, 4), a(1, 4, 5, 5));
        Expect.graph(x, "nodes 1, 2, 4", x.view(g, 4, 0b10110), 3, true, a(2, 1, 2, 2), a(1, 1, 3, 3), a(0, 2, 5, 5));
        int h = Make.graph(x, 16, false, a(15, 0, 1, 1), a(14, 15, 2, 2));
        Expect.graph(x, "nodes 0 and 15", x.view(h, 4, 0x8001), 2, false, a(1, 0, 1, 1));
    }

    private static void partOfOneAndOfAll() {
        Check.test("Promise 5, Terms 2: PART of one node and of all");
        GraphEngine x = new GraphEngine();
        int[][] rows = {a(0, 1, 1, 1), a(2, 2, 2, 2), a(2, 1, 3, 3)};
        int g = Make.graph(x, 3, true, rows);
        Expect.graph(x, "a node without loops", x.view(g, 4, 0b010), 1, true);
        Expect.graph(x, "a node with a loop", x.view(g, 4, 0b100), 1, true, a(0, 0, 2, 2));
        Expect.graph(x, "all", x.view(g, 4, 0b111), 3, true, rows);
        int sixteen = Make.graph(x, 16, true, a(15, 15, 4, 4), a(15, 0, 5, 5));
        Expect.graph(x, "all of 16", x.view(sixteen, 4, 0xFFFF), 16, true, a(15, 15, 4, 4), a(15, 0, 5, 5));
    }

    private static void heavyOrEqual() {
        Check.test("Promise 5, Terms 2: HEAVY, weight x or more");
        GraphEngine x = new GraphEngine();
        int g = Make.graph(x, 2, true, a(0, 1, -5, 0), a(0, 1, 6, 1), a(1, 0, 7, 2), a(0, 1, 8, 3), a(1, 1, 7, 4));
        Expect.graph(x, "7 or more", x.view(g, 5, 7), 2, true, a(1, 0, 7, 2), a(0, 1, 8, 3), a(1, 1, 7, 4));
        Expect.graph(x, "8 or more", x.view(g, 5, 8), 2, true, a(0, 1, 8, 3));
        Expect.graph(x, "9 or more", x.view(g, 5, 9), 2, true);
        Check.fine(x, "-4 or more", x.of(x.view(g, 5, -4), 1, 0), 4);
        Check.fine(x, "-5 or more", x.of(x.view(g, 5, -5), 1, 0), 5);
    }

    private static void heavyFarOff() {
        Check.test("Promise 5, Terms 2: HEAVY, any x will do");
        GraphEngine x = new GraphEngine();
        int g = Make.graph(x, 2, false, a(0, 1, -1000, 0), a(0, 1, 1000, 1));
        Expect.graph(x, "the least x", x.view(g, 5, Integer.MIN_VALUE), 2, false, a(0, 1, -1000, 0), a(0, 1, 1000, 1));
        Expect.graph(x, "-1000", x.view(g, 5, -1000), 2, false, a(0, 1, -1000, 0), a(0, 1, 1000, 1));
        Expect.graph(x, "1000", x.view(g, 5, 1000), 2, false, a(0, 1, 1000, 1));
        Expect.graph(x, "1001", x.view(g, 5, 1001), 2, false);
        Expect.graph(x, "the greatest x", x.view(g, 5, Integer.MAX_VALUE), 2, false);
    }

    private static void squaredTwoArcs() {
        Check.test("Promise 5, Terms 2: SQUARED, just two arcs, one behind the other");
        GraphEngine x = new GraphEngine();
        int one = Make.graph(x, 2, true, a(0, 1, 3, 9));
        Expect.graph(x, "one arc leads nowhere", x.view(one, 6, 0), 2, true);
        int back = Make.graph(x, 2, true, a(0, 1, 3, 9), a(1, 0, 4, 9));
        Expect.graph(x, "there and back", x.view(back, 6, 0), 2, true, a(0, 0, 7, 0), a(1, 1, 7, 0));
        int row = Make.graph(x, 4, true, a(0, 1, 1, 9), a(1, 2, 2, 9), a(2, 3, 3, 9));
        Expect.graph(x, "a row", x.view(row, 6, 0), 4, true, a(0, 2, 3, 0), a(1, 3, 5, 0));
    }

    private static void squaredTheSameTwice() {
        Check.test("Promise 5, Terms 2: SQUARED, perhaps the same arc twice");
        GraphEngine x = new GraphEngine();
        int loop = Make.graph(x, 1, true, a(0, 0, 4, 9));
        Expect.graph(x, "a loop", x.view(loop, 6, 0), 1, true, a(0, 0, 8, 0));
        int loose = Make.graph(x, 1, false, a(0, 0, -4, 9));
        Expect.graph(x, "a loop, not directed", x.view(loose, 6, 0), 1, false, a(0, 0, -8, 0));
        int arc = Make.graph(x, 2, false, a(1, 0, 3, 9));
        Expect.graph(x, "an arc there and back", x.view(arc, 6, 0), 2, false, a(0, 0, 6, 0), a(1, 1, 6, 0));
    }

    private static void squaredOrder() {
        Check.test("Promise 5, Terms 2: SQUARED, by a, then b; not directed: a at most b");
        GraphEngine x = new GraphEngine();
        int g = Make.graph(x, 3, true, a(2, 1, 1), a(1, 0, 2), a(0, 2, 4), a(1, 2, 8));
        Expect.graph(x, "directed", x.view(g, 6, 0), 3, true,
                a(0, 1, 5, 0), a(1, 1, 9, 0), a(1, 2, 6, 0), a(2, 0, 3, 0), a(2, 2, 9, 0));
        int h = Make.graph(x, 3, false, a(2, 1, 1), a(1, 0, 2));
        Expect.graph(x, "not directed", x.view(h, 6, 0), 3, false,
                a(0, 0, 4, 0), a(0, 2, 3, 0), a(1, 1, 2, 0), a(2, 2, 2, 0));
    }

    private static void squaredLeastSum() {
        Check.test("Promise 5, Terms 2: SQUARED, the least sum of both weights, cost 0");
        GraphEngine x = new GraphEngine();
        int g = Make.graph(x, 4, true, a(0, 1, 3, 9), a(0, 1, 2, 9), a(1, 2, 5, 9), a(0, 3, 1, 9), a(3, 2, 4, 9), a(2, 2, -2, 9));
        Expect.graph(x, "squared", x.view(g, 6, 0), 4, true,
                a(0, 2, 5, 0), a(1, 2, 3, 0), a(2, 2, -4, 0), a(3, 2, 2, 0));
    }

    private static int squareOfTwo(GraphEngine x, int first, int second) {
        return x.view(Make.graph(x, 3, true, a(0, 1, first), a(1, 2, second)), 6, 0);
    }

    private static void squaredClamped() {
        Check.test("Promise 5, Terms 2: SQUARED, a weight below -1000 or above 1000 becomes that");
        GraphEngine x = new GraphEngine();
        int[][] sums = {{1000, 1000, 1000}, {1000, 1, 1000}, {1000, 0, 1000}, {999, 0, 999}, {500, 500, 1000},
                {-1000, -1000, -1000}, {-1000, -1, -1000}, {-1000, 0, -1000}, {-999, 0, -999}, {1000, -1000, 0}};
        for (int[] s : sums) {
            Expect.graph(x, s[0] + " and " + s[1], squareOfTwo(x, s[0], s[1]), 3, true, a(0, 2, s[2], 0));
        }
        int two = Make.graph(x, 3, true, a(0, 1, 1000), a(1, 2, 900), a(0, 1, 950));
        Expect.graph(x, "the least of two that are too great", x.view(two, 6, 0), 3, true, a(0, 2, 1000, 0));
    }

    /** From 7 nodes over node 0 to 8 nodes: 56 arcs; a loop at one of the 7 adds two. */
    private static void squaredSixty() {
        Check.test("Promise 5, Terms 2: SQUARED, -4: more than 60");
        GraphEngine x = new GraphEngine();
        x.begin(16, true);
        for (int v = 1; v <= 7; v++) x.arc(v, 0, 1, 1);
        for (int v = 8; v <= 15; v++) x.arc(0, v, 1, 1);
        Check.fine(x, "7 times 8", x.of(x.view(x.graph(), 6, 0), 1, 0), 56);
        x.arc(1, 1, 1, 1);
        x.arc(2, 2, 1, 1);
        int just = x.graph();
        Check.fine(x, "just 60", x.of(x.view(just, 6, 0), 1, 0), 60);
        x.begin(16, true);
        for (int v = 1; v <= 7; v++) x.arc(v, 0, 1, 1);
        for (int v = 8; v <= 15; v++) x.arc(0, v, 1, 1);
        x.arc(1, 1, 1, 1);
        x.arc(2, 2, 1, 1);
        x.arc(1, 2, 1, 1);
        int more = x.graph();
        Check.refused(x, "61", x.view(more, 6, 0), -4);
        x.arc(3, 3, 1, 1);
        int most = x.graph();
        Check.refused(x, "63", x.view(most, 6, 0), -4);
        Check.fine(x, "nothing is made", x.handles(), 6);
    }

    /** A star with 10 ends: 11 loops and 45 pairs of ends are 56 arcs; a ring of four adds 6 of its own. */
    private static void squaredSixtyNotDirected() {
        Check.test("Promise 5, Terms 2: SQUARED, not directed, -4: more than 60");
        GraphEngine x = new GraphEngine();
        x.begin(16, false);
        for (int v = 1; v <= 10; v++) x.arc(0, v, 1, 1);
        Check.fine(x, "a star of 10", x.of(x.view(x.graph(), 6, 0), 1, 0), 56);
        x.arc(11, 12, 1, 1);
        x.arc(13, 14, 1, 1);
        int just = x.graph();
        Check.fine(x, "with two arcs apart: 60", x.of(x.view(just, 6, 0), 1, 0), 60);
        x.arc(15, 15, 1, 1);
        int more = x.graph();
        Check.refused(x, "with a loop apart: 61", x.view(more, 6, 0), -4);
    }

    private static void linesNoneOrTooMany() {
        Check.test("Promise 5, Terms 2: LINES, -3: none or more than 16");
        GraphEngine x = new GraphEngine();
        for (int k = 0; k < 2; k++) {
            boolean directed = k == 0;
            int none = Make.graph(x, 3, directed);
            Check.refused(x, "no arcs", x.view(none, 7, 0), -3);
            int ring = Make.ring(x, 16, directed);
            Check.fine(x, "16 arcs are 16 nodes", x.of(x.view(ring, 7, 0), 0, 0), 16);
            x.arc(0, 8, 1, 1);
            int more = x.graph();
            Check.refused(x, "17 arcs", x.view(more, 7, 0), -3);
            int one = Make.graph(x, 16, directed, a(15, 3, 7, 7));
            Expect.graph(x, "one arc", x.view(one, 7, 0), 1, directed);
        }
        int full = Make.graph(x, 2, true, Make.times(60, 0, 1));
        Check.refused(x, "60 arcs", x.view(full, 7, 0), -3);
    }

    private static void linesDirected() {
        Check.test("Promise 5, Terms 2: LINES, by i, then j, if i's to is j's from");
        GraphEngine x = new GraphEngine();
        int g = Make.graph(x, 3, true, a(0, 1, 5, 5), a(1, 2, 6, 6), a(2, 2, 7, 7), a(1, 0, 8, 8));
        Expect.graph(x, "with a loop", x.view(g, 7, 0), 4, true,
                a(0, 1, 0, 0), a(0, 3, 0, 0), a(1, 2, 0, 0), a(2, 2, 0, 0), a(3, 0, 0, 0));
        int heads = Make.graph(x, 3, true, a(0, 2, 5, 5), a(1, 2, 6, 6), a(0, 1, 6, 6));
        Expect.graph(x, "the same to, or the same from, is none", x.view(heads, 7, 0), 3, true, a(2, 1, 0, 0));
    }

    private static void linesNotDirected() {
        Check.test("Promise 5, Terms 2: LINES, not directed: i below j, and a node in common");
        GraphEngine x = new GraphEngine();
        int g = Make.graph(x, 4, false, a(0, 1), a(2, 1), a(2, 2), a(3, 0), a(0, 1), a(3, 3));
        Expect.graph(x, "every way to have a node in common", x.view(g, 7, 0), 6, false,
                a(0, 1, 0, 0), a(0, 3, 0, 0), a(0, 4, 0, 0), a(1, 2, 0, 0), a(1, 4, 0, 0), a(3, 4, 0, 0), a(3, 5, 0, 0));
        int loops = Make.graph(x, 2, false, a(0, 0, 3, 3), a(1, 1, 3, 3), a(0, 0, 3, 3));
        Expect.graph(x, "loops", x.view(loops, 7, 0), 3, false, a(0, 2, 0, 0));
    }

    /** Each arc to node 0 goes with each from it. */
    private static int[][] hub(int in, int out) {
        int[][] arcs = new int[in + out][];
        for (int i = 0; i < in; i++) arcs[i] = a(1, 0);
        for (int i = 0; i < out; i++) arcs[in + i] = a(0, 2);
        return arcs;
    }

    private static void linesSixty() {
        Check.test("Promise 5, Terms 2: LINES of more than 60 arcs have no room");
        GraphEngine x = new GraphEngine();
        int just = Make.graph(x, 3, true, hub(6, 10));
        Check.fine(x, "6 times 10", x.of(x.view(just, 7, 0), 1, 0), 60);
        int more = Make.graph(x, 3, true, hub(7, 9));
        Check.refused(x, "7 times 9", x.view(more, 7, 0), -4);
        Check.fine(x, "nothing is made", x.handles(), 3);
    }

    /** 11 loops of one node have 55 pairs; a ring of five has 5 more, a ring of three with a tail of two 6. */
    private static void linesSixtyNotDirected() {
        Check.test("Promise 5, Terms 2: LINES, not directed, of more than 60 arcs have no room");
        GraphEngine x = new GraphEngine();
        Make.draft(x, 6, false, Make.times(11, 0, 0));
        for (int v = 1; v <= 5; v++) x.arc(v, v % 5 + 1, 1, 1);
        int just = x.graph();
        Check.fine(x, "55 and 5", x.of(x.view(just, 7, 0), 1, 0), 60);
        Make.draft(x, 6, false, Make.times(11, 0, 0));
        for (int v = 1; v <= 4; v++) x.arc(v, v + 1, 1, 1);
        x.arc(1, 3, 1, 1);
        int more = x.graph();
        Check.refused(x, "55 and 6", x.view(more, 7, 0), -4);
    }

    private static void failedLeavesNothing() {
        Check.test("Promise 5: a view without room leaves nothing behind");
        GraphEngine x = new GraphEngine();
        int more = Make.graph(x, 3, true, hub(7, 9));
        int two = Make.graph(x, 2, true, a(0, 1, 5, 6));
        Check.refused(x, "no room", x.view(more, 7, 0), -4);
        Expect.graph(x, "the next view", x.view(two, 0, 0), 2, true, a(1, 0, 5, 6));
        Check.refused(x, "no room again", x.view(more, 7, 0), -4);
        Expect.graph(x, "the draft", x.graph(), 2, true, a(0, 1, 5, 6));
    }
}
