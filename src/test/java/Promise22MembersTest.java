/** Promise 22, members: the nodes of part k, as a set; 0 if there is none such. */
public final class Promise22MembersTest {
    public static void main(String[] args) {
        sets();
        noneSuch();
        handlesFirst();
        Check.end();
    }

    private static void sets() {
        Check.test("Promise 22: the nodes of part k, as a set (node v: bit v)");
        GraphEngine x = new GraphEngine();
        Check.fine(x, "one node", x.members(x.parts(x.graph(), 0, 0), 0), 1);
        int g = Make.graph(x, 16, true, Make.a(15, 1), Make.a(0, 7));
        int p = x.parts(g, 1, 0);
        Check.fine(x, "part 0", x.members(p, 0), 0x0081);
        Check.fine(x, "part 1", x.members(p, 1), 0x8002);
        Check.fine(x, "the last part", x.members(p, 13), 0x4000);
        int all = x.parts(Make.graph(x, 16, true), 3, 0);
        Check.fine(x, "all nodes", x.members(all, 0), 0xFFFF);
    }

    private static void noneSuch() {
        Check.test("Promise 22: 0 if there is none such");
        GraphEngine x = new GraphEngine();
        int g = Make.graph(x, 3, true, Make.a(0, 2));
        int p = x.parts(g, 1, 0);
        for (int k : new int[] {-1, 2, 3, 16, Integer.MIN_VALUE, Integer.MAX_VALUE}) {
            Check.fine(x, "part " + k + " of 2", x.members(p, k), 0);
        }
        int each = x.parts(Make.graph(x, 16, true), 1, 0);
        Check.fine(x, "part 15 of 16", x.members(each, 15), 0x8000);
        Check.fine(x, "part 16 of 16", x.members(each, 16), 0);
    }

    private static void handlesFirst() {
        Check.test("Promise 22: -1, then -2");
        GraphEngine x = new GraphEngine();
        int g = Make.graph(x, 2, true);
        int c = x.column(g, 0, 0);
        int w = x.ways(g, 0, 0);
        for (int none : new int[] {-1, 3, 120, Integer.MIN_VALUE, Integer.MAX_VALUE}) {
            Check.denied(x, "no handle " + none, x.members(none, 0), -1);
            Check.denied(x, "no handle, no part " + none, x.members(none, -1), -1);
        }
        for (int other : new int[] {g, c, w}) {
            Check.denied(x, "of another sort " + other, x.members(other, 0), -2);
            Check.denied(x, "of another sort, no part " + other, x.members(other, -1), -2);
        }
    }
}
