/** Promise 23, ask: what is refused, and what x and y tell. */
public final class Promise23AskRefusedTest {
    public static void main(String[] args) {
        noSuchWhat();
        noSuchPlace();
        noSuchNodeOfSides();
        noSuchArc();
        noSuchNodesOfFlows();
        xIsY();
        noSuchNodeOfNumberings();
        yIsAHandle();
        xDoesNotCountForSame();
        xAndYDoNotCount();
        yDoesNotCount();
        handlesFirst();
        changesNothing();
        smallBehindGreat();
        full();
        Check.end();
    }

    private static int[] a(int... numbers) {
        return numbers;
    }

    private static void noSuchWhat() {
        Check.test("Promise 23: -3, no such what");
        GraphEngine x = new GraphEngine();
        int g = Make.graph(x, 2, true, a(0, 1));
        for (int what : new int[] {-1, 18, 19, Integer.MIN_VALUE, Integer.MAX_VALUE}) {
            Check.denied(x, "what " + what, x.ask(g, what, 0, 1), -3);
            Check.denied(x, "what " + what + ", y no handle", x.ask(g, what, 0, 99), -3);
        }
    }

    private static void noSuchPlace() {
        Check.test("Promise 23: -3, no such place (0)");
        GraphEngine x = new GraphEngine();
        int g = Make.graph(x, 3, true, a(0, 1));
        int ring = Make.ring(x, 3, true);
        for (int place : new int[] {-1, 3, 4, 16, Integer.MIN_VALUE, Integer.MAX_VALUE}) {
            Check.denied(x, "place " + place, x.ask(g, 0, place, 0), -3);
            Check.denied(x, "place " + place + " where there is no order", x.ask(ring, 0, place, 0), -3);
        }
        int big = Make.graph(x, 16, true);
        Check.fine(x, "place 15 of 16", x.ask(big, 0, 15, 0), 15);
        Check.denied(x, "place 16 of 16", x.ask(big, 0, 16, 0), -3);
    }

    private static void noSuchNodeOfSides() {
        Check.test("Promise 23: -3, no such node (2)");
        GraphEngine x = new GraphEngine();
        int g = Make.graph(x, 3, true, a(0, 1));
        int loop = Make.graph(x, 3, true, a(0, 0));
        for (int node : new int[] {-1, 3, 4, 16, Integer.MIN_VALUE, Integer.MAX_VALUE}) {
            Check.denied(x, "node " + node, x.ask(g, 2, node, 0), -3);
            Check.denied(x, "node " + node + " where there are no sides", x.ask(loop, 2, node, 0), -3);
        }
    }

    private static void noSuchArc() {
        Check.test("Promise 23: -3, no such arc (11)");
        GraphEngine x = new GraphEngine();
        int g = Make.graph(x, 5, true, a(0, 1), a(1, 2));
        for (int arc : new int[] {-1, 2, 4, 60, Integer.MIN_VALUE, Integer.MAX_VALUE}) {
            Check.denied(x, "arc " + arc, x.ask(g, 11, arc, 0), -3);
        }
        int none = Make.graph(x, 5, true);
        Check.denied(x, "arc 0 of none", x.ask(none, 11, 0, 0), -3);
        int full = Make.graph(x, 2, true, Make.times(60, 0, 1));
        Check.fine(x, "arc 59 of 60", x.ask(full, 11, 59, 0), 0);
        Check.denied(x, "arc 60 of 60", x.ask(full, 11, 60, 0), -3);
    }

    private static void noSuchNodesOfFlows() {
        Check.test("Promise 23: -3, no such node (12 to 15)");
        GraphEngine x = new GraphEngine();
        int g = Make.graph(x, 3, true, a(0, 1));
        for (int what = 12; what <= 15; what++) {
            for (int node : new int[] {-1, 3, 16, Integer.MIN_VALUE, Integer.MAX_VALUE}) {
                Check.denied(x, "what " + what + ", from " + node, x.ask(g, what, node, 1), -3);
                Check.denied(x, "what " + what + ", to " + node, x.ask(g, what, 1, node), -3);
                Check.denied(x, "what " + what + ", both " + node, x.ask(g, what, node, node), -3);
            }
        }
    }

    private static void xIsY() {
        Check.test("Promise 23: -3, x is y (12 to 15)");
        GraphEngine x = new GraphEngine();
        int g = Make.graph(x, 3, true, a(0, 1), a(1, 1));
        int one = Make.graph(x, 1, false, a(0, 0));
        for (int what = 12; what <= 15; what++) {
            for (int node = 0; node < 3; node++) {
                Check.denied(x, "what " + what + ", node " + node, x.ask(g, what, node, node), -3);
            }
            Check.denied(x, "what " + what + ", the only node", x.ask(one, what, 0, 0), -3);
        }
    }

    private static void noSuchNodeOfNumberings() {
        Check.test("Promise 23: -3, no such node (17)");
        GraphEngine x = new GraphEngine();
        int g = Make.graph(x, 3, true, a(0, 1));
        int four = Make.graph(x, 4, true, a(0, 1));
        for (int node : new int[] {-1, 3, 16, Integer.MIN_VALUE, Integer.MAX_VALUE}) {
            Check.denied(x, "node " + node, x.ask(g, 17, node, g), -3);
            Check.denied(x, "node " + node + " where they are not the same", x.ask(g, 17, node, four), -3);
        }
        Check.fine(x, "node 3 of the graph itself", x.ask(four, 17, 3, g), -1);
    }

    private static void yIsAHandle() {
        Check.test("Promise 23: y is a handle for 16, 17: -1 of any, then -2 of any, then -3");
        GraphEngine x = new GraphEngine();
        int g = Make.graph(x, 2, true);
        int c = x.column(g, 0, 0);
        int w = x.ways(g, 0, 0);
        int p = x.parts(g, 0, 0);
        for (int what = 16; what <= 17; what++) {
            for (int none : new int[] {-1, 4, 120, Integer.MIN_VALUE, Integer.MAX_VALUE}) {
                Check.denied(x, "what " + what + ", y " + none, x.ask(g, what, 0, none), -1);
                Check.denied(x, "what " + what + ", y " + none + ", no node", x.ask(g, what, 9, none), -1);
                Check.denied(x, "what " + what + ", y " + none + ", a column", x.ask(c, what, 0, none), -1);
                Check.denied(x, "what " + what + ", a column, graph " + none, x.ask(none, what, 0, c), -1);
            }
            for (int other : new int[] {c, w, p}) {
                Check.denied(x, "what " + what + ", y of another sort " + other, x.ask(g, what, 0, other), -2);
                Check.denied(x, "what " + what + ", y of another sort, no node " + other, x.ask(g, what, 9, other), -2);
                Check.denied(x, "what " + what + ", the graph of another sort " + other, x.ask(other, what, 0, g), -2);
            }
        }
    }

    private static void xDoesNotCountForSame() {
        Check.test("Promise 23: x does not count for 16");
        GraphEngine x = new GraphEngine();
        int g = Make.graph(x, 2, true, a(0, 1));
        for (int number : new int[] {-1, 2, Integer.MIN_VALUE, Integer.MAX_VALUE}) {
            Check.fine(x, "x " + number, x.ask(g, 16, number, g), 1);
        }
    }

    private static void xAndYDoNotCount() {
        Check.test("Promise 23: x and y do not count where they tell nothing");
        GraphEngine x = new GraphEngine();
        int g = Make.graph(x, 3, true, a(0, 1, 7), a(1, 2, 5), a(2, 1, 9));
        int[] whats = {1, 3, 4, 5, 6, 7, 8, 9, 10};
        long[] want = {2, 3, 5, 2, 1, 1, 5, 2, 12};
        for (int k = 0; k < whats.length; k++) {
            for (int number : new int[] {0, -1, 99, Integer.MIN_VALUE, Integer.MAX_VALUE}) {
                Check.fine(x, "what " + whats[k] + ", x and y " + number, x.ask(g, whats[k], number, number), want[k]);
            }
        }
    }

    private static void yDoesNotCount() {
        Check.test("Promise 23: y does not count for 0, 2, 11");
        GraphEngine x = new GraphEngine();
        int g = Make.graph(x, 3, true, a(0, 1));
        for (int number : new int[] {-1, 99, Integer.MIN_VALUE, Integer.MAX_VALUE}) {
            Check.fine(x, "order, y " + number, x.ask(g, 0, 2, number), 2);
            Check.fine(x, "side, y " + number, x.ask(g, 2, 1, number), 1);
            Check.fine(x, "light arc, y " + number, x.ask(g, 11, 0, number), 1);
        }
    }

    private static void handlesFirst() {
        Check.test("Promise 23: -1, then -2, then -3");
        GraphEngine x = new GraphEngine();
        int g = Make.graph(x, 2, true);
        int[] others = {x.column(g, 0, 0), x.ways(g, 0, 0), x.parts(g, 0, 0)};
        for (int what = -1; what <= 18; what++) {
            Check.denied(x, "no handle -1, what " + what, x.ask(-1, what, 0, 0), -1);
            Check.denied(x, "no handle 4, what " + what, x.ask(4, what, -9, -9), -1);
            for (int other : others) {
                Check.denied(x, "of another sort " + other + ", what " + what, x.ask(other, what, 0, g), -2);
            }
        }
    }

    private static void changesNothing() {
        Check.test("Promise 23, Terms 1: what is asked changes nothing, and is answered the same again");
        GraphEngine x = new GraphEngine();
        int[][] rows = {a(0, 1, 3, 2), a(1, 2, 4, 1), a(2, 3, 5, 0), a(3, 0, 6, 9), a(0, 2, 7, 7), a(4, 3, 1, 1)};
        int g = Make.graph(x, 5, true, rows);
        int h = x.view(g, 0, 0);
        for (int what = 0; what <= 17; what++) {
            int y = what > 15 ? h : 3;
            long first = x.ask(g, what, 1, y);
            x.ask(h, what, 2, what > 15 ? g : 1);
            Check.due("what " + what + " again", x.ask(g, what, 1, y), first);
        }
        Expect.graph(x, "the graph", g, 5, true, rows);
    }

    private static void smallBehindGreat() {
        Check.test("Promise 23: what is asked of a great graph leaves nothing for a small one");
        GraphEngine x = new GraphEngine();
        x.begin(16, false);
        for (int i = 0; i < 60; i++) x.arc(i % 16, (i * 7 + i / 16 + 1) % 16, i * 13 % 50 + 1, i);
        int great = x.graph();
        int[][] rows = {a(0, 1, 3, 2), a(1, 2, 4, 1), a(2, 0, 5, 0), a(2, 3, 6, 9)};
        int small = Make.graph(x, 4, false, rows);
        int other = Make.graph(x, 4, false, a(3, 2, 3, 2), a(2, 1, 4, 1), a(1, 3, 5, 0), a(1, 0, 6, 9));
        long[] want = {-1, 3, -1, 0b0111, 0b1001, 3, 2, 2, 0, 3, 13, 1, 6, 0b0111, 6 * 9 + 3, 1, 1, 2};
        for (int what = 0; what <= 17; what++) {
            boolean flow = what >= 12 && what <= 15;
            int from = flow ? 0 : 1;
            x.ask(great, what, 9, what > 15 ? great : 4);
            Expect.ask(x, "behind a great one", small, what, from, what > 15 ? other : 3, want[what]);
        }
    }

    private static void full() {
        Check.test("Promise 23: all can be asked where all handles are taken");
        GraphEngine x = new GraphEngine();
        int g = Make.graph(x, 2, true, a(0, 1));
        Make.fillHandles(x);
        for (int what = 0; what <= 17; what++) {
            x.ask(g, what, 0, what > 15 ? g : 1);
            Check.due("what " + what + ", then refused()", x.refused(), 0);
        }
    }
}
