/** Promise 10, run: a PROGRAM: the column behind it, or what is refused. */
public final class Promise10RunTest {
    public static void main(String[] args) {
        noRounds();
        rounds();
        messages();
        joins();
        own();
        withoutAny();
        allAtOnce();
        byEachArc();
        notDirected();
        loopOnce();
        wrap();
        messageBounds();
        joinBounds();
        asManyNodes();
        handlesFirst();
        noRoom();
        columnStays();
        Check.end();
    }

    private static int[] a(int... numbers) {
        return numbers;
    }

    private static void noRounds() {
        Check.test("Promise 10, Terms 3: 0 rounds leave the numbers as they are");
        GraphEngine x = new GraphEngine();
        int g = Make.graph(x, 2, true, a(0, 1, 2), a(1, 0, 3));
        int c = x.flat(2, 5, 1, 7);
        for (int message = 0; message <= 4; message++) {
            for (int join = 0; join <= 3; join++) {
                int h = x.run(g, c, message, join, join % 2 == 0, 0);
                Check.fine(x, "node 0", x.at(h, 0), 5);
                Check.fine(x, "node 1", x.at(h, 1), 7);
            }
        }
    }

    private static void rounds() {
        Check.test("Promise 10, Terms 3: rounds are 0 .. 200");
        GraphEngine x = new GraphEngine();
        int g = Make.graph(x, 1, true, a(0, 0, 2));
        int c = x.flat(1, 1, -1, 0);
        for (int r : new int[] {-1, 201, Integer.MIN_VALUE, Integer.MAX_VALUE}) {
            Check.refused(x, r + " rounds", x.run(g, c, 1, 2, false, r), -3);
        }
        Expect.column(x, "1 round", x.run(g, c, 1, 2, false, 1), 3);
        Expect.column(x, "199 rounds", x.run(g, c, 1, 2, false, 199), 399);
        Expect.column(x, "200 rounds", x.run(g, c, 1, 2, false, 200), 401);
    }

    private static void messages() {
        Check.test("Promise 10, Terms 3: MESSAGE, of the number at the other end and the arc's weight");
        GraphEngine x = new GraphEngine();
        int g = Make.graph(x, 2, true, a(0, 1, 6));
        int h = Make.graph(x, 2, true, a(0, 1, -3));
        int c = x.flat(2, 5, 1, 9);
        long[] six = {5, 11, 30, 5, 5 ^ 6};
        long[] below = {5, 2, -15, -3, 5 ^ -3L};
        for (int message = 0; message <= 4; message++) {
            for (int join = 0; join <= 3; join++) {
                String name = "message " + message + ", join " + join;
                Expect.column(x, name + ", weight 6", x.run(g, c, message, join, false, 1), 5, six[message]);
                Expect.column(x, name + ", weight -3", x.run(h, c, message, join, false, 1), 5, below[message]);
            }
        }
    }

    private static void joins() {
        Check.test("Promise 10, Terms 3: JOIN, the least, the greatest, the sum, the xor");
        GraphEngine x = new GraphEngine();
        int g = Make.graph(x, 4, true, a(1, 0, 6), a(2, 0, -3), a(3, 0, 9));
        int c = x.flat(4, 0, 0, 100);
        long[] want = {-3, 9, 12, 6 ^ -3L ^ 9};
        for (int join = 0; join <= 3; join++) {
            Expect.column(x, "join " + join, x.run(g, c, 1, join, false, 1), want[join], 0, 0, 0);
        }
    }

    private static void own() {
        Check.test("Promise 10, Terms 3: OWN, and of its own number, too");
        GraphEngine x = new GraphEngine();
        int g = Make.graph(x, 4, true, a(1, 0, 6), a(2, 0, -3), a(3, 0, 9));
        long[] great = {-3, 100, 112, 6 ^ -3L ^ 9 ^ 100};
        long[] small = {-100, 9, -88, 6 ^ -3L ^ 9 ^ -100};
        int c = x.flat(4, 0, 0, 100);
        int d = x.flat(4, 0, 0, -100);
        for (int join = 0; join <= 3; join++) {
            Expect.column(x, "own 100, join " + join, x.run(g, c, 1, join, true, 1), great[join], 0, 0, 0);
            Expect.column(x, "own -100, join " + join, x.run(g, d, 1, join, true, 1), small[join], 0, 0, 0);
        }
    }

    private static void withoutAny() {
        Check.test("Promise 10, Terms 3: without any message its own number stays");
        GraphEngine x = new GraphEngine();
        int g = Make.graph(x, 3, true, a(0, 1, 2));
        int c = x.flat(3, 5, 2, 8);
        for (int join = 0; join <= 3; join++) {
            Expect.column(x, "join " + join, x.run(g, c, 1, join, false, 3), 5, 7, 8);
            Check.fine(x, "own, join " + join, x.at(x.run(g, c, 1, join, true, 3), 2), 8);
        }
        int none = Make.graph(x, 16, false);
        int all = x.flat(16, 5, 2, 8);
        Check.fine(x, "no arcs at all", x.at(x.run(none, all, 2, 2, false, 200), -1), 83);
    }

    private static void allAtOnce() {
        Check.test("Promise 10, Terms 3: in each round all nodes at once");
        GraphEngine x = new GraphEngine();
        int g = Make.ring(x, 3, true);
        int c = x.flat(3, 0, 0, 1);
        Expect.column(x, "one step round", x.run(g, c, 0, 2, false, 1), 0, 1, 0);
        Expect.column(x, "two steps round", x.run(g, c, 0, 2, false, 2), 0, 0, 1);
        Expect.column(x, "199 steps round", x.run(g, c, 0, 2, false, 199), 0, 1, 0);
        int back = x.view(g, 0, 0);
        Expect.column(x, "one step back", x.run(back, c, 0, 2, false, 1), 0, 0, 1);
    }

    private static void byEachArc() {
        Check.test("Promise 10, Terms 3: a message by each arc, of several with the same ends too");
        GraphEngine x = new GraphEngine();
        int g = Make.graph(x, 2, true, a(0, 1, 2), a(0, 1, 2), a(0, 1, 4));
        int c = x.flat(2, 1, -1, 0);
        Expect.column(x, "the sum of products", x.run(g, c, 2, 2, false, 1), 1, 8);
        Expect.column(x, "the xor of sums", x.run(g, c, 1, 3, false, 1), 1, 5);
    }

    private static void notDirected() {
        Check.test("Promise 10, Terms 3: not directed, by each arc it is an end of, from the other end");
        GraphEngine x = new GraphEngine();
        int g = Make.graph(x, 3, false, a(0, 1, 10), a(2, 1, 20));
        int c = x.flat(3, 1, 1, 5);
        Expect.column(x, "sums", x.run(g, c, 1, 2, false, 1), 15, 32, 25);
        Expect.column(x, "numbers", x.run(g, c, 0, 2, false, 1), 5, 2, 5);
    }

    private static void loopOnce() {
        Check.test("Promise 10, Terms 3: by a loop one message comes");
        GraphEngine x = new GraphEngine();
        int c = x.flat(1, 5, -1, 0);
        int d = Make.graph(x, 1, true, a(0, 0, 3));
        int u = Make.graph(x, 1, false, a(0, 0, 3));
        Expect.column(x, "directed", x.run(d, c, 1, 2, false, 1), 8);
        Expect.column(x, "not directed", x.run(u, c, 1, 2, false, 1), 8);
        Expect.column(x, "not directed, own", x.run(u, c, 1, 2, true, 1), 13);
    }

    private static void wrap() {
        Check.test("Promise 10, Terms: numbers are longs, which wrap: a PROGRAM");
        GraphEngine x = new GraphEngine();
        int g = Make.graph(x, 1, true, a(0, 0, 2));
        int one = x.flat(1, 1, -1, 0);
        int most = x.flat(1, Long.MAX_VALUE, -1, 0);
        Expect.column(x, "2 to the 62", x.run(g, one, 2, 2, false, 62), 1L << 62);
        Expect.column(x, "2 to the 63", x.run(g, one, 2, 2, false, 63), Long.MIN_VALUE);
        Expect.column(x, "2 to the 64", x.run(g, one, 2, 2, false, 64), 0);
        Expect.column(x, "most + 2", x.run(g, most, 1, 0, false, 1), Long.MIN_VALUE + 1);
        Expect.column(x, "most + most", x.run(g, most, 0, 2, true, 1), -2);
    }

    private static void messageBounds() {
        Check.test("Promise 10, Terms 3: MESSAGE is 0 .. 4, else -3");
        GraphEngine x = new GraphEngine();
        int g = Make.graph(x, 2, true, a(0, 1));
        int c = x.flat(2, 1, -1, 0);
        for (int message : new int[] {-1, 5, 6, Integer.MIN_VALUE, Integer.MAX_VALUE}) {
            Check.refused(x, "message " + message, x.run(g, c, message, 0, false, 1), -3);
            Check.refused(x, "message " + message + ", no rounds", x.run(g, c, message, 0, true, 0), -3);
        }
        Check.fine(x, "nothing is made", x.handles(), 2);
    }

    private static void joinBounds() {
        Check.test("Promise 10, Terms 3: JOIN is 0 .. 3, else -3");
        GraphEngine x = new GraphEngine();
        int g = Make.graph(x, 2, true, a(0, 1));
        int c = x.flat(2, 1, -1, 0);
        for (int join : new int[] {-1, 4, 5, Integer.MIN_VALUE, Integer.MAX_VALUE}) {
            Check.refused(x, "join " + join, x.run(g, c, 0, join, false, 1), -3);
            Check.refused(x, "join " + join + ", no rounds", x.run(g, c, 0, join, true, 0), -3);
        }
        Check.fine(x, "nothing is made", x.handles(), 2);
    }

    private static void asManyNodes() {
        Check.test("Promise 10, Terms 3: a graph and a column with as many nodes, else -3");
        GraphEngine x = new GraphEngine();
        int g = Make.graph(x, 2, true, a(0, 1));
        int one = x.flat(1, 1, -1, 0);
        int three = x.flat(3, 1, -1, 0);
        int sixteen = x.flat(16, 1, -1, 0);
        for (int c : new int[] {one, three, sixteen}) {
            Check.refused(x, "column " + c, x.run(g, c, 0, 0, false, 1), -3);
            Check.refused(x, "column " + c + ", no rounds", x.run(g, c, 0, 0, false, 0), -3);
        }
    }

    private static void handlesFirst() {
        Check.test("Promise 10: -1 of any, then -2 of any, then -3");
        GraphEngine x = new GraphEngine();
        int g = Make.graph(x, 2, true);
        int c = x.flat(3, 1, -1, 0);
        int w = x.ways(g, 0, 0);
        int p = x.parts(g, 0, 0);
        for (int none : new int[] {-1, 4, 120, Integer.MIN_VALUE, Integer.MAX_VALUE}) {
            Check.refused(x, "no graph " + none, x.run(none, c, 0, 0, false, 1), -1);
            Check.refused(x, "no column " + none, x.run(g, none, 0, 0, false, 1), -1);
            Check.refused(x, "no graph, and all else wrong " + none, x.run(none, g, 5, 4, true, 201), -1);
            Check.refused(x, "no column, and all else wrong " + none, x.run(c, none, 5, 4, true, 201), -1);
        }
        for (int other : new int[] {c, w, p}) {
            Check.refused(x, "the graph of another sort " + other, x.run(other, c, 0, 0, false, 1), -2);
        }
        for (int other : new int[] {g, w, p}) {
            Check.refused(x, "the column of another sort " + other, x.run(g, other, 0, 0, false, 1), -2);
            Check.refused(x, "the column of another sort, numbers wrong " + other, x.run(g, other, 5, 4, true, 201), -2);
        }
        Check.refused(x, "one for the other", x.run(c, g, 0, 0, false, 1), -2);
    }

    private static void noRoom() {
        Check.test("Promise 10: -4 where all handles are taken, behind all else");
        GraphEngine x = new GraphEngine();
        int g = x.graph();
        int c = x.flat(1, 1, -1, 0);
        int two = x.flat(2, 1, -1, 0);
        Make.fillHandles(x);
        Check.refused(x, "a program", x.run(g, c, 0, 0, false, 1), -4);
        Check.refused(x, "no rounds", x.run(g, c, 0, 0, false, 0), -4);
        Check.refused(x, "no handle", x.run(g, 120, 0, 0, false, 1), -1);
        Check.refused(x, "of another sort", x.run(g, g, 0, 0, false, 1), -2);
        Check.refused(x, "no message", x.run(g, c, 5, 0, false, 1), -3);
        Check.refused(x, "no join", x.run(g, c, 0, 4, false, 1), -3);
        Check.refused(x, "no such rounds", x.run(g, c, 0, 0, false, 201), -3);
        Check.refused(x, "not as many nodes", x.run(g, two, 0, 0, false, 1), -3);
        x.drop();
        Check.fine(x, "behind drop()", x.run(g, c, 0, 0, false, 1), 119);
    }

    private static void columnStays() {
        Check.test("Promise 10: the column itself never changes");
        GraphEngine x = new GraphEngine();
        int g = Make.graph(x, 2, true, a(0, 1, 3), a(1, 0, 4));
        int c = x.flat(2, 5, 1, 7);
        Expect.column(x, "behind 3 rounds", x.run(g, c, 1, 2, true, 3), 73, 72);
        Expect.column(x, "before", c, 5, 7);
    }
}
