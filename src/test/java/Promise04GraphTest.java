/** Promise 4, graph: the draft as a graph: its handle; -4. */
public final class Promise04GraphTest {
    public static void main(String[] args) {
        handles();
        draftStays();
        neverChanges();
        least();
        greatest();
        noRoom();
        Check.end();
    }

    private static void handles() {
        Check.test("Promise 4: handles 0, 1, ..");
        GraphEngine x = new GraphEngine();
        for (int k = 0; k < 5; k++) {
            Check.fine(x, "graph() number " + k, x.graph(), k);
        }
        Check.fine(x, "handles()", x.handles(), 5);
    }

    private static void draftStays() {
        Check.test("Promise 4: the draft stays");
        GraphEngine x = new GraphEngine();
        Make.draft(x, 3, true, Make.a(0, 1, 5, 6), Make.a(2, 2, 7, 8));
        for (int k = 0; k < 3; k++) {
            Expect.graph(x, "graph() number " + k, x.graph(), 3, true, Make.a(0, 1, 5, 6), Make.a(2, 2, 7, 8));
        }
    }

    private static void neverChanges() {
        Check.test("Promise 4: a graph never changes as the draft does");
        GraphEngine x = new GraphEngine();
        Make.draft(x, 2, true, Make.a(0, 1, 5, 6));
        int g = x.graph();
        x.arc(1, 0, 7, 8);
        int h = x.graph();
        Make.draft(x, 5, false, Make.a(4, 4, 0, 0), Make.a(3, 3, 0, 0), Make.a(2, 2, 0, 0));
        Expect.graph(x, "the first", g, 2, true, Make.a(0, 1, 5, 6));
        Expect.graph(x, "the second", h, 2, true, Make.a(0, 1, 5, 6), Make.a(1, 0, 7, 8));
    }

    private static void least() {
        Check.test("Promise 4: the least graph: a node, no arc");
        GraphEngine x = new GraphEngine();
        x.begin(1, true);
        Expect.graph(x, "a node", x.graph(), 1, true);
    }

    private static void greatest() {
        Check.test("Promise 4: the greatest graph: 16 nodes, 60 arcs");
        GraphEngine x = new GraphEngine();
        int g = Make.graph(x, 16, false, Make.times(60, 15, 14, -1000, 1000));
        Check.fine(x, "nodes", x.of(g, 0, 0), 16);
        Check.fine(x, "arcs", x.of(g, 1, 0), 60);
        Check.fine(x, "from of the last", x.of(g, 3, 59), 15);
        Check.fine(x, "weight of the last", x.of(g, 5, 59), -1000);
    }

    private static void noRoom() {
        Check.test("Promise 4: -4 where 120 handles are there");
        GraphEngine x = new GraphEngine();
        Make.draft(x, 2, true, Make.a(0, 1, 5, 6));
        for (int k = 0; k < 120; k++) {
            Check.due("graph() number " + k, x.graph(), k);
        }
        Check.refused(x, "graph() number 120", x.graph(), -4);
        Check.fine(x, "handles()", x.handles(), 120);
        Check.fine(x, "drop()", x.drop(), 119);
        Check.fine(x, "the draft goes on", x.arc(1, 0, 7, 8), 1);
        Expect.graph(x, "the freed handle", x.graph(), 2, true, Make.a(0, 1, 5, 6), Make.a(1, 0, 7, 8));
        Check.refused(x, "graph() again", x.graph(), -4);
    }
}
