/** Promise 16, sort: the sort of a handle. */
public final class Promise16SortTest {
    public static void main(String[] args) {
        sorts();
        noSuchHandle();
        behindDrop();
        Check.end();
    }

    private static void sorts() {
        Check.test("Promise 16, Terms 1: GRAPHS 1, COLUMNS 2, WAYS 3, PARTS 4");
        GraphEngine x = new GraphEngine();
        x.graph();
        x.column(0, 0, 0);
        x.ways(0, 0, 0);
        x.parts(0, 0, 0);
        x.flat(1, 5, -1, 0);
        x.view(0, 0, 0);
        x.join(0, 0, false);
        x.join(0, 3, true);
        x.mix(1, 4, 0);
        x.run(0, 1, 0, 0, false, 0);
        x.parts(0, 4, 1);
        int[] want = {1, 2, 3, 4, 2, 1, 1, 1, 2, 2, 4};
        Check.fine(x, "handles()", x.handles(), want.length);
        for (int h = 0; h < want.length; h++) {
            Check.fine(x, "sort(" + h + ")", x.sort(h), want[h]);
        }
    }

    private static void noSuchHandle() {
        Check.test("Promise 16: no such handle: 0, refused for -1");
        GraphEngine x = new GraphEngine();
        x.graph();
        for (int handle : new int[] {1, 2, -1, 119, 120, 121, Integer.MAX_VALUE, Integer.MIN_VALUE}) {
            Check.denied(x, "sort(" + handle + ")", x.sort(handle), -1);
        }
        Check.fine(x, "sort(0)", x.sort(0), 1);
    }

    private static void behindDrop() {
        Check.test("Promise 16: a handle that is free has no sort, and then its new one");
        GraphEngine x = new GraphEngine();
        x.graph();
        x.ways(0, 0, 0);
        x.drop();
        Check.denied(x, "sort(1)", x.sort(1), -1);
        x.flat(1, 0, -1, 0);
        Check.fine(x, "sort(1)", x.sort(1), 2);
    }
}
