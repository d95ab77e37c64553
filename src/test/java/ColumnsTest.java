/** Promises 7 to 10 and 18: column, flat, mix, run, at. */
public final class ColumnsTest {
    public static void main(String[] args) {
        degrees();
        cores();
        far();
        walks();
        blocks();
        wrongColumns();
        flat();
        mixed();
        programs();
        wrongPrograms();
        asked();
        Check.end();
    }

    private static void numbers(GraphEngine x, String name, int c, long... want) {
        Check.due(name + " is made", c >= 0, true);
        long sum = 0;
        for (int v = 0; v < want.length; v++) {
            Check.fine(x, name + " at " + v, x.at(c, v), want[v]);
            sum += want[v];
        }
        Check.fine(x, name + " in all", x.at(c, -1), sum);
        Check.denied(x, name + " behind the end", x.at(c, want.length), -3);
    }

    private static int[] a(int... numbers) {
        return numbers;
    }

    private static void degrees() {
        GraphEngine x = new GraphEngine();
        int[][] rows = {a(0, 1, 5), a(0, 2, -7), a(2, 0, 3), a(2, 2, 10)};
        int g = Make.graph(x, 4, true, rows);
        numbers(x, "out", x.column(g, 0, 99), 2, 0, 2, 0);
        numbers(x, "in", x.column(g, 1, -99), 1, 1, 2, 0);
        numbers(x, "weights", x.column(g, 2, 5000), -2, 0, 13, 0);
        int h = Make.graph(x, 4, false, rows);
        numbers(x, "ends", x.column(h, 0, 0), 3, 1, 4, 0);
        numbers(x, "ends", x.column(h, 1, 0), 3, 1, 4, 0);
        numbers(x, "weights, a loop once", x.column(h, 2, 0), 1, 5, 6, 0);
    }

    private static void cores() {
        GraphEngine x = new GraphEngine();
        int g = Make.graph(x, 7, true, a(0, 1), a(1, 2), a(2, 0), a(2, 3), a(4, 5), a(5, 4), a(4, 5), a(6, 6), a(6, 6));
        numbers(x, "core: arcs of one pair count all, loops do not", x.column(g, 3, 0), 2, 2, 2, 1, 3, 3, 0);
        int one = Make.graph(x, 1, false);
        numbers(x, "core of one", x.column(one, 3, 0), 0);
    }

    private static void far() {
        GraphEngine x = new GraphEngine();
        int g = Make.graph(x, 5, true, a(0, 1), a(1, 2), a(2, 3), a(0, 2), a(3, 3));
        numbers(x, "far", x.column(g, 4, 0), 2, 2, 1, 0, 0);
        int h = Make.graph(x, 5, false, a(0, 1), a(1, 2), a(2, 3), a(0, 2));
        numbers(x, "far, not directed", x.column(h, 4, 0), 2, 2, 1, 2, 0);
        x.begin(16, true);
        for (int v = 0; v < 16; v++) x.arc(v, (v + 1) % 16, 1, 1);
        Check.due("far round a ring", x.at(x.column(x.graph(), 4, 0), 9), 15);
    }

    private static void walks() {
        GraphEngine x = new GraphEngine();
        int g = Make.graph(x, 3, true, a(0, 1), a(0, 1), a(1, 0), a(1, 2));
        numbers(x, "walks of none", x.column(g, 5, 0), 1, 1, 1);
        numbers(x, "walks of 1", x.column(g, 5, 1), 2, 2, 0);
        numbers(x, "walks of 2", x.column(g, 5, 2), 4, 2, 0);
        numbers(x, "walks of 3", x.column(g, 5, 3), 4, 4, 0);
        int h = Make.graph(x, 2, false, a(0, 1), a(1, 1));
        numbers(x, "walks, a loop once", x.column(h, 5, 3), 3, 5);
        int two = Make.graph(x, 1, true, a(0, 0), a(0, 0));
        numbers(x, "walks of 63 wrap", x.column(two, 5, 63), Long.MIN_VALUE);
        numbers(x, "walks of 64 wrap", x.column(two, 5, 64), 0);
        numbers(x, "walks of 1000 wrap", x.column(two, 5, 1000), 0);
        int three = Make.graph(x, 1, false, a(0, 0), a(0, 0), a(0, 0));
        long power = 1;
        for (int i = 0; i < 1000; i++) power *= 3;
        numbers(x, "walks of 1000 by three loops", x.column(three, 5, 1000), power);
        Check.refused(x, "walks of -1", x.column(g, 5, -1), -3);
        Check.refused(x, "walks of 1001", x.column(g, 5, 1001), -3);
    }

    private static void blocks() {
        GraphEngine x = new GraphEngine();
        int g = Make.graph(x, 8, true, a(0, 1), a(1, 2), a(2, 0), a(2, 3), a(3, 4), a(4, 5), a(5, 3), a(2, 6), a(6, 2), a(7, 7));
        numbers(x, "blocks", x.column(g, 6, 0), 1, 1, 3, 2, 1, 1, 1, 0);
        int star = Make.graph(x, 4, false, a(0, 1), a(0, 2), a(0, 3));
        numbers(x, "blocks of a star", x.column(star, 6, 0), 3, 1, 1, 1);
    }

    private static void wrongColumns() {
        GraphEngine x = new GraphEngine();
        int g = Make.graph(x, 2, true);
        int c = x.column(g, 0, 0);
        Check.refused(x, "kind 7", x.column(g, 7, 0), -3);
        Check.refused(x, "kind -1", x.column(g, -1, 0), -3);
        Check.refused(x, "no handle", x.column(2, 0, 0), -1);
        Check.refused(x, "a column", x.column(c, 0, 0), -2);
    }

    private static void flat() {
        GraphEngine x = new GraphEngine();
        numbers(x, "flat", x.flat(3, 7, -1, 9), 7, 7, 7);
        numbers(x, "flat but for one", x.flat(3, 7, 2, Long.MIN_VALUE), 7, 7, Long.MIN_VALUE);
        numbers(x, "flat of one", x.flat(1, Long.MAX_VALUE, 0, 4), 4);
        Check.due("the sum wraps", x.at(x.flat(2, Long.MAX_VALUE, -1, 0), -1), -2);
        Check.due("sixteen", x.at(x.flat(16, 3, 15, 4), -1), 49);
        Check.refused(x, "no nodes", x.flat(0, 1, -1, 1), -3);
        Check.refused(x, "17 nodes", x.flat(17, 1, -1, 1), -3);
        Check.refused(x, "node 3 of 3", x.flat(3, 1, 3, 1), -3);
        Check.refused(x, "node -2", x.flat(3, 1, -2, 1), -3);
        Check.refused(x, "far off", x.flat(Integer.MIN_VALUE, 1, Integer.MAX_VALUE, 1), -3);
    }

    private static void mixed() {
        GraphEngine x = new GraphEngine();
        int a = x.flat(3, 6, 1, -5);
        int b = x.flat(3, 6, 2, 9);
        numbers(x, "sum", x.mix(a, b, 0), 12, 1, 15);
        numbers(x, "difference", x.mix(a, b, 1), 0, -11, -3);
        numbers(x, "product", x.mix(a, b, 2), 36, -30, 54);
        numbers(x, "least", x.mix(a, b, 3), 6, -5, 6);
        numbers(x, "greatest", x.mix(a, b, 4), 6, 6, 9);
        numbers(x, "xor", x.mix(a, b, 5), 0, -5 ^ 6, 6 ^ 9);
        numbers(x, "less", x.mix(a, b, 6), 0, 1, 1);
        numbers(x, "less the other way", x.mix(b, a, 6), 0, 0, 0);
        int most = x.flat(1, Long.MAX_VALUE, -1, 0);
        int one = x.flat(1, 1, -1, 0);
        int least = x.flat(1, Long.MIN_VALUE, -1, 0);
        numbers(x, "sum that wraps", x.mix(most, one, 0), Long.MIN_VALUE);
        numbers(x, "difference that wraps", x.mix(least, one, 1), Long.MAX_VALUE);
        numbers(x, "product that wraps", x.mix(least, least, 2), 0);
        numbers(x, "less is of the numbers themselves", x.mix(least, most, 6), 1);
        Check.refused(x, "kind 7", x.mix(a, b, 7), -3);
        Check.refused(x, "kind -1", x.mix(a, b, -1), -3);
        Check.refused(x, "not as many nodes", x.mix(a, one, 0), -3);
        int g = Make.graph(x, 3, true);
        Check.refused(x, "a graph", x.mix(a, g, 0), -2);
        Check.refused(x, "a graph", x.mix(g, a, 0), -2);
        Check.refused(x, "no handle", x.mix(a, 99, 0), -1);
        Check.refused(x, "no handle", x.mix(-1, a, 0), -1);
        numbers(x, "the first stays", a, 6, -5, 6);
    }

    private static void programs() {
        GraphEngine x = new GraphEngine();
        int[][] rows = {a(0, 1, 2), a(0, 2, 10), a(1, 2, 3), a(2, 2, 1)};
        int g = Make.graph(x, 4, true, rows);
        int h = Make.graph(x, 4, false, rows);
        int c = x.flat(4, 5, 1, 7);
        numbers(x, "no rounds", x.run(g, c, 0, 0, true, 0), 5, 7, 5, 5);
        numbers(x, "number, least", x.run(g, c, 0, 0, false, 1), 5, 5, 5, 5);
        numbers(x, "number, greatest", x.run(g, c, 0, 1, false, 1), 5, 5, 7, 5);
        numbers(x, "sum, sum", x.run(g, c, 1, 2, false, 1), 5, 7, 31, 5);
        numbers(x, "sum, sum, own", x.run(g, c, 1, 2, true, 1), 5, 14, 36, 5);
        numbers(x, "product, sum", x.run(g, c, 2, 2, false, 1), 5, 10, 76, 5);
        numbers(x, "lesser, greatest", x.run(g, c, 3, 1, false, 1), 5, 2, 5, 5);
        numbers(x, "xor, xor", x.run(g, c, 4, 3, false, 1), 5, 7, (5 ^ 10) ^ (7 ^ 3) ^ (5 ^ 1), 5);
        numbers(x, "xor, xor, own", x.run(g, c, 4, 3, true, 1), 5, 0, (5 ^ 10) ^ (7 ^ 3) ^ (5 ^ 1) ^ 5, 5);
        numbers(x, "number, sum, not directed, a loop once", x.run(h, c, 0, 2, false, 1), 12, 10, 17, 5);
        numbers(x, "sum, least, own, not directed", x.run(h, c, 1, 0, true, 1), 5, 7, 5, 5);
        numbers(x, "all at once", x.run(h, c, 0, 2, false, 2), 27, 29, 39, 5);
        int far = x.flat(4, 1000000, 0, 0);
        numbers(x, "least ways by a program", x.run(g, far, 1, 0, true, 3), 0, 2, 5, 1000000);
        int loop = Make.graph(x, 1, true, a(0, 0, 2));
        int one = x.flat(1, 1, -1, 0);
        numbers(x, "62 rounds", x.run(loop, one, 2, 2, false, 62), 1L << 62);
        numbers(x, "64 rounds wrap", x.run(loop, one, 2, 2, false, 64), 0);
        numbers(x, "200 rounds", x.run(loop, one, 1, 2, false, 200), 401);
        numbers(x, "the first stays", c, 5, 7, 5, 5);
    }

    private static void wrongPrograms() {
        GraphEngine x = new GraphEngine();
        int g = Make.graph(x, 2, true, a(0, 1));
        int c = x.flat(2, 1, -1, 0);
        int three = x.flat(3, 1, -1, 0);
        Check.refused(x, "message 5", x.run(g, c, 5, 0, false, 1), -3);
        Check.refused(x, "message -1", x.run(g, c, -1, 0, false, 1), -3);
        Check.refused(x, "join 4", x.run(g, c, 0, 4, false, 1), -3);
        Check.refused(x, "join -1", x.run(g, c, 0, -1, false, 1), -3);
        Check.refused(x, "201 rounds", x.run(g, c, 0, 0, false, 201), -3);
        Check.refused(x, "-1 rounds", x.run(g, c, 0, 0, false, -1), -3);
        Check.refused(x, "not as many nodes", x.run(g, three, 0, 0, false, 1), -3);
        Check.refused(x, "no graph", x.run(9, c, 0, 0, false, 1), -1);
        Check.refused(x, "no column", x.run(g, 9, 0, 0, false, 1), -1);
        Check.refused(x, "a column as a graph", x.run(c, c, 0, 0, false, 1), -2);
        Check.refused(x, "a graph as a column", x.run(g, g, 0, 0, false, 1), -2);
    }

    private static void asked() {
        GraphEngine x = new GraphEngine();
        int g = Make.graph(x, 2, true, a(0, 1));
        int c = x.flat(2, 4, 1, 9);
        Check.fine(x, "at(c, 0)", x.at(c, 0), 4);
        Check.fine(x, "at(c, 1)", x.at(c, 1), 9);
        Check.fine(x, "at(c, -1)", x.at(c, -1), 13);
        Check.denied(x, "at(c, 2)", x.at(c, 2), -3);
        Check.denied(x, "at(c, -2)", x.at(c, -2), -3);
        Check.denied(x, "at(g, 0)", x.at(g, 0), -2);
        Check.denied(x, "at(9, 0)", x.at(9, 0), -1);
    }
}
