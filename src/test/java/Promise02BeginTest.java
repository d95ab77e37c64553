/** Promise 2, begin: the draft begins anew; whether it could (n is 1 .. 16). */
public final class Promise02BeginTest {
    public static void main(String[] args) {
        everyNumberOfNodes();
        tooFew();
        tooMany();
        refusedLeavesTheDraft();
        emptyOfArcs();
        roomAgain();
        directedOrNot();
        leavesWhatHasHandles();
        needsNoHandle();
        Check.end();
    }

    private static void everyNumberOfNodes() {
        Check.test("Promise 2: it can with n of 1 .. 16");
        GraphEngine x = new GraphEngine();
        for (int n = 1; n <= 16; n++) {
            Check.due("begin(" + n + ")", x.begin(n, true), true);
            Check.due("refused()", x.refused(), 0);
            Expect.graph(x, n + " nodes", x.graph(), n, true);
            Check.refused(x, "arc to node n", x.arc(0, n, 0, 0), -3);
            Check.fine(x, "arc to the last node", x.arc(0, n - 1, 0, 0), 0);
        }
    }

    private static void cannot(int n) {
        GraphEngine x = new GraphEngine();
        Check.due("begin(" + n + ", true)", x.begin(n, true), false);
        Check.due("begin(" + n + ", true), then refused()", x.refused(), -3);
        Check.due("begin(" + n + ", false)", x.begin(n, false), false);
        Check.due("begin(" + n + ", false), then refused()", x.refused(), -3);
    }

    private static void tooFew() {
        Check.test("Promise 2: n too small is refused");
        cannot(0);
        cannot(-1);
        cannot(-16);
        cannot(Integer.MIN_VALUE);
    }

    private static void tooMany() {
        Check.test("Promise 2: n too large is refused");
        cannot(17);
        cannot(32);
        cannot(65536 + 4);
        cannot(Integer.MAX_VALUE);
    }

    private static void refusedLeavesTheDraft() {
        Check.test("Promise 2: where it could not, the draft stays");
        GraphEngine x = new GraphEngine();
        x.begin(4, true);
        x.arc(3, 2, 1, 7);
        x.begin(17, false);
        x.begin(0, false);
        Check.fine(x, "arc() goes on", x.arc(2, 3, 1, 8), 1);
        Expect.graph(x, "the draft", x.graph(), 4, true, Make.a(3, 2, 1, 7), Make.a(2, 3, 1, 8));
    }

    private static void emptyOfArcs() {
        Check.test("Promise 2: the draft is empty of arcs then");
        GraphEngine x = new GraphEngine();
        x.begin(4, true);
        x.arc(3, 2, 1, 7);
        Check.due("begin(4, true) again", x.begin(4, true), true);
        Expect.graph(x, "the draft", x.graph(), 4, true);
        Check.fine(x, "arcs are numbered from 0 again", x.arc(0, 1, 1, 1), 0);
    }

    private static void roomAgain() {
        Check.test("Promise 2: a full draft has room again");
        GraphEngine x = new GraphEngine();
        Make.draft(x, 2, false, Make.times(60, 0, 1, 5, 5));
        Check.refused(x, "arc 60", x.arc(0, 1, 5, 5), -4);
        Check.due("begin(2, false)", x.begin(2, false), true);
        Check.fine(x, "arc 0", x.arc(0, 1, 5, 5), 0);
    }

    private static void directedOrNot() {
        Check.test("Promise 2: directed as it is said");
        GraphEngine x = new GraphEngine();
        x.begin(3, true);
        Expect.graph(x, "directed", x.graph(), 3, true);
        x.begin(3, false);
        Expect.graph(x, "not directed", x.graph(), 3, false);
    }

    private static void leavesWhatHasHandles() {
        Check.test("Promise 2: what has a handle stays");
        GraphEngine x = new GraphEngine();
        int g = Make.graph(x, 3, true, Make.a(0, 1, 5, 6));
        int c = x.column(g, 0, 0);
        x.begin(2, false);
        Check.fine(x, "handles()", x.handles(), 2);
        Expect.graph(x, "the graph", g, 3, true, Make.a(0, 1, 5, 6));
        Expect.column(x, "its column", c, 1, 0, 0);
    }

    private static void needsNoHandle() {
        Check.test("Promise 2: it can where all handles are taken");
        GraphEngine x = new GraphEngine();
        Make.fillHandles(x);
        Check.due("begin(16, true)", x.begin(16, true), true);
        Check.due("refused()", x.refused(), 0);
    }
}
