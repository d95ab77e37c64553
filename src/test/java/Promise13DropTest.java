/** Promise 13, drop: the latest thing goes: its handle, which is free then; -1 if there is none. */
public final class Promise13DropTest {
    public static void main(String[] args) {
        latestGoes();
        handleIsFree();
        noneThere();
        eachSort();
        othersStay();
        roomAgain();
        draftStays();
        Check.end();
    }

    private static void latestGoes() {
        Check.test("Promise 13: the latest thing goes: its handle");
        GraphEngine x = new GraphEngine();
        for (int k = 0; k < 3; k++) x.graph();
        for (int k = 2; k >= 0; k--) {
            Check.fine(x, "drop()", x.drop(), k);
            Check.fine(x, "handles()", x.handles(), k);
            Check.denied(x, "sort of what is gone", x.sort(k), -1);
        }
    }

    private static void handleIsFree() {
        Check.test("Promise 13: its handle is free then");
        GraphEngine x = new GraphEngine();
        x.graph();
        x.column(0, 0, 0);
        Check.fine(x, "drop()", x.drop(), 1);
        Check.denied(x, "at() of what is gone", x.at(1, 0), -1);
        Check.refused(x, "mix() of what is gone", x.mix(1, 1, 0), -1);
        Check.fine(x, "the free handle", x.parts(0, 1, 0), 1);
        Check.fine(x, "its new sort", x.sort(1), 4);
        Check.denied(x, "no column any more", x.at(1, 0), -2);
    }

    private static void noneThere() {
        Check.test("Promise 13: -1 if there is none");
        GraphEngine x = new GraphEngine();
        Check.refused(x, "of a new object", x.drop(), -1);
        x.graph();
        Check.fine(x, "the only one", x.drop(), 0);
        Check.refused(x, "none any more", x.drop(), -1);
        Check.refused(x, "and again", x.drop(), -1);
        Check.fine(x, "handles()", x.handles(), 0);
        Check.fine(x, "the first handle again", x.graph(), 0);
    }

    private static void eachSort() {
        Check.test("Promise 13: things of each sort go");
        GraphEngine x = new GraphEngine();
        x.graph();
        x.column(0, 0, 0);
        x.ways(0, 0, 0);
        x.parts(0, 0, 0);
        for (int k = 3; k >= 0; k--) {
            Check.fine(x, "drop()", x.drop(), k);
        }
        Check.fine(x, "handles()", x.handles(), 0);
    }

    private static void othersStay() {
        Check.test("Promise 13, Terms 1: what was made of what is gone, or before it, stays");
        GraphEngine x = new GraphEngine();
        int g = Make.graph(x, 2, true, Make.a(0, 1, 5, 6));
        int w = x.ways(g, 0, 0);
        x.view(g, 0, 0);
        x.flat(2, 9, -1, 0);
        x.drop();
        x.drop();
        Expect.graph(x, "the graph", g, 2, true, Make.a(0, 1, 5, 6));
        Expect.way(x, "the ways", w, 1, 5, 1, 0);
        x.flat(2, 9, -1, 0);
        Expect.way(x, "the ways", w, 1, 5, 1, 0);
    }

    private static void roomAgain() {
        Check.test("Promise 13: where all handles were taken there is room for one");
        GraphEngine x = new GraphEngine();
        Make.fillHandles(x);
        Check.refused(x, "no room", x.graph(), -4);
        Check.fine(x, "drop()", x.drop(), 119);
        Check.fine(x, "room", x.graph(), 119);
        Check.refused(x, "no room again", x.graph(), -4);
    }

    private static void draftStays() {
        Check.test("Promise 13: the draft stays");
        GraphEngine x = new GraphEngine();
        Make.graph(x, 2, true, Make.a(0, 1, 5, 6));
        x.drop();
        x.drop();
        Expect.graph(x, "the draft", x.graph(), 2, true, Make.a(0, 1, 5, 6));
    }
}
