/** Promise 15, handles: how many handles there are. */
public final class Promise15HandlesTest {
    public static void main(String[] args) {
        none();
        asThingsAreMade();
        oneRowForAllSorts();
        at120();
        refusedCallsMakeNone();
        askersMakeNone();
        Check.end();
    }

    private static void none() {
        Check.test("Promise 15: none at first");
        GraphEngine x = new GraphEngine();
        Check.fine(x, "handles()", x.handles(), 0);
        x.begin(3, true);
        x.arc(0, 1, 1, 1);
        Check.fine(x, "the draft has none", x.handles(), 0);
    }

    private static void asThingsAreMade() {
        Check.test("Promise 15: one more with each thing, one less behind drop()");
        GraphEngine x = new GraphEngine();
        for (int k = 1; k <= 4; k++) {
            x.graph();
            Check.fine(x, "handles()", x.handles(), k);
        }
        for (int k = 3; k >= 0; k--) {
            x.drop();
            Check.fine(x, "handles()", x.handles(), k);
        }
        x.drop();
        Check.fine(x, "never below 0", x.handles(), 0);
    }

    private static void oneRowForAllSorts() {
        Check.test("Promise 15, Terms 1: handles are 0, 1, .. as things are made, whatever their sorts");
        GraphEngine x = new GraphEngine();
        Check.fine(x, "graph()", x.graph(), 0);
        Check.fine(x, "column()", x.column(0, 0, 0), 1);
        Check.fine(x, "ways()", x.ways(0, 0, 0), 2);
        Check.fine(x, "parts()", x.parts(0, 0, 0), 3);
        Check.fine(x, "flat()", x.flat(1, 0, -1, 0), 4);
        Check.fine(x, "view()", x.view(0, 0, 0), 5);
        Check.fine(x, "join() of graphs", x.join(0, 5, false), 6);
        Check.fine(x, "join() by parts", x.join(0, 3, true), 7);
        Check.fine(x, "mix()", x.mix(1, 4, 0), 8);
        Check.fine(x, "run()", x.run(0, 1, 0, 0, false, 0), 9);
        Check.fine(x, "parts() by a column", x.parts(0, 4, 1), 10);
        Check.fine(x, "handles()", x.handles(), 11);
    }

    private static void at120() {
        Check.test("Promise 15, Terms 1: 120 at most are there in all");
        GraphEngine x = new GraphEngine();
        x.graph();
        for (int k = 1; k < 120; k++) {
            int made = k % 4 == 0 ? x.graph() : k % 4 == 1 ? x.column(0, 0, 0) : k % 4 == 2 ? x.ways(0, 0, 0) : x.parts(0, 0, 0);
            Check.due("thing " + k, made, k);
        }
        Check.fine(x, "handles()", x.handles(), 120);
        Check.refused(x, "one more", x.graph(), -4);
        Check.fine(x, "handles()", x.handles(), 120);
        Check.fine(x, "the last one is there", x.sort(119), 4);
        Check.denied(x, "there is no other", x.sort(120), -1);
    }

    private static void refusedCallsMakeNone() {
        Check.test("Promise 15: what is refused makes no handle");
        GraphEngine x = new GraphEngine();
        int g = x.graph();
        x.view(g, 8, 0);
        x.join(g, 7, false);
        x.column(g, 7, 0);
        x.flat(0, 0, -1, 0);
        x.mix(g, g, 0);
        x.run(g, g, 0, 0, false, 0);
        x.ways(g, 3, 0);
        x.parts(g, 5, 0);
        Check.fine(x, "handles()", x.handles(), 1);
    }

    private static void askersMakeNone() {
        Check.test("Promise 15: calls that ask make no handle");
        GraphEngine x = new GraphEngine();
        int g = Make.graph(x, 2, true, Make.a(0, 1));
        for (int what = 0; what <= 17; what++) {
            x.ask(g, what, what == 11 ? 0 : 1, 0);
            Check.due("ask " + what + ", then refused()", x.refused(), 0);
        }
        Check.fine(x, "handles()", x.handles(), 1);
    }
}
