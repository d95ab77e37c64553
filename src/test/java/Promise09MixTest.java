/** Promise 9, mix: MIXED: its handle, or what is refused. */
public final class Promise09MixTest {
    public static void main(String[] args) {
        kinds();
        eachKind();
        wrap();
        extremes();
        withItself();
        asManyNodes();
        handlesFirst();
        noRoom();
        Check.end();
    }

    private static void kinds() {
        Check.test("Promise 9: kinds are 0 .. 6");
        GraphEngine x = new GraphEngine();
        int c = x.flat(1, 3, -1, 0);
        for (int kind : new int[] {-1, 7, 8, Integer.MIN_VALUE, Integer.MAX_VALUE}) {
            Check.refused(x, "kind " + kind, x.mix(c, c, kind), -3);
        }
        for (int kind = 0; kind <= 6; kind++) {
            Check.fine(x, "kind " + kind, x.mix(c, c, kind), kind + 1);
        }
    }

    private static void eachKind() {
        Check.test("Promise 9, Terms 3: sum, difference, product, least, greatest, xor, less");
        GraphEngine x = new GraphEngine();
        int a = x.flat(3, 6, 1, -5);
        int b = x.flat(3, 6, 2, 9);
        Expect.column(x, "sum", x.mix(a, b, 0), 12, 1, 15);
        Expect.column(x, "difference", x.mix(a, b, 1), 0, -11, -3);
        Expect.column(x, "product", x.mix(a, b, 2), 36, -30, 54);
        Expect.column(x, "least", x.mix(a, b, 3), 6, -5, 6);
        Expect.column(x, "greatest", x.mix(a, b, 4), 6, 6, 9);
        Expect.column(x, "xor", x.mix(a, b, 5), 0, -5 ^ 6, 6 ^ 9);
        Expect.column(x, "1 if the first's is less, else 0", x.mix(a, b, 6), 0, 1, 1);
        Expect.column(x, "the other way round", x.mix(b, a, 6), 0, 0, 0);
        Expect.column(x, "the first stays", a, 6, -5, 6);
        Expect.column(x, "the second stays", b, 6, 6, 9);
    }

    private static void wrap() {
        Check.test("Promise 9, Terms: numbers are longs, which wrap: MIXED");
        GraphEngine x = new GraphEngine();
        int most = x.flat(1, Long.MAX_VALUE, -1, 0);
        int least = x.flat(1, Long.MIN_VALUE, -1, 0);
        int one = x.flat(1, 1, -1, 0);
        Expect.column(x, "most + 1", x.mix(most, one, 0), Long.MIN_VALUE);
        Expect.column(x, "least - 1", x.mix(least, one, 1), Long.MAX_VALUE);
        Expect.column(x, "most * most", x.mix(most, most, 2), 1);
        Expect.column(x, "least * least", x.mix(least, least, 2), 0);
        Expect.column(x, "1 - least", x.mix(one, least, 1), Long.MIN_VALUE + 1);
    }

    private static void extremes() {
        Check.test("Promise 9, Terms 3: least, greatest and less compare the numbers themselves");
        GraphEngine x = new GraphEngine();
        int most = x.flat(1, Long.MAX_VALUE, -1, 0);
        int least = x.flat(1, Long.MIN_VALUE, -1, 0);
        Expect.column(x, "least", x.mix(most, least, 3), Long.MIN_VALUE);
        Expect.column(x, "greatest", x.mix(least, most, 4), Long.MAX_VALUE);
        Expect.column(x, "less", x.mix(least, most, 6), 1);
        Expect.column(x, "not less", x.mix(most, least, 6), 0);
        Expect.column(x, "xor", x.mix(most, least, 5), -1);
    }

    private static void withItself() {
        Check.test("Promise 9: a column is mixed with itself");
        GraphEngine x = new GraphEngine();
        int c = x.flat(2, 3, 1, -4);
        long[][] want = {{6, -8}, {0, 0}, {9, 16}, {3, -4}, {3, -4}, {0, 0}, {0, 0}};
        for (int kind = 0; kind <= 6; kind++) {
            Expect.column(x, "kind " + kind, x.mix(c, c, kind), want[kind]);
        }
    }

    private static void asManyNodes() {
        Check.test("Promise 9, Terms 3: MIXED of two with as many nodes, else -3");
        GraphEngine x = new GraphEngine();
        int one = x.flat(1, 1, -1, 0);
        int two = x.flat(2, 1, -1, 0);
        int sixteen = x.flat(16, 1, -1, 0);
        Check.refused(x, "1 and 2", x.mix(one, two, 0), -3);
        Check.refused(x, "2 and 1", x.mix(two, one, 0), -3);
        Check.refused(x, "16 and 2", x.mix(sixteen, two, 0), -3);
        Check.refused(x, "2 and 16", x.mix(two, sixteen, 0), -3);
        Check.fine(x, "nothing is made", x.handles(), 3);
        Check.fine(x, "16 and 16", x.at(x.mix(sixteen, sixteen, 0), -1), 32);
    }

    private static void handlesFirst() {
        Check.test("Promise 9: -1 of any, then -2 of any, then -3");
        GraphEngine x = new GraphEngine();
        int g = Make.graph(x, 2, true);
        int c = x.flat(3, 1, -1, 0);
        int w = x.ways(g, 0, 0);
        int p = x.parts(g, 0, 0);
        for (int none : new int[] {-1, 4, 120, Integer.MIN_VALUE, Integer.MAX_VALUE}) {
            Check.refused(x, "no first " + none, x.mix(none, c, 0), -1);
            Check.refused(x, "no second " + none, x.mix(c, none, 0), -1);
            Check.refused(x, "no first, the second of another sort, no kind " + none, x.mix(none, g, 7), -1);
            Check.refused(x, "the first of another sort, no second, no kind " + none, x.mix(g, none, 7), -1);
        }
        for (int other : new int[] {g, w, p}) {
            Check.refused(x, "the first of another sort " + other, x.mix(other, c, 0), -2);
            Check.refused(x, "the second of another sort " + other, x.mix(c, other, 0), -2);
            Check.refused(x, "of another sort, and no kind " + other, x.mix(c, other, 7), -2);
        }
    }

    private static void noRoom() {
        Check.test("Promise 9: -4 where all handles are taken, behind all else");
        GraphEngine x = new GraphEngine();
        int g = x.graph();
        int c = x.flat(1, 1, -1, 0);
        int two = x.flat(2, 1, -1, 0);
        Make.fillHandles(x);
        for (int kind = 0; kind <= 6; kind++) {
            Check.refused(x, "kind " + kind, x.mix(c, c, kind), -4);
        }
        Check.refused(x, "no handle", x.mix(c, 120, 0), -1);
        Check.refused(x, "of another sort", x.mix(c, g, 0), -2);
        Check.refused(x, "no kind", x.mix(c, c, 7), -3);
        Check.refused(x, "not as many nodes", x.mix(c, two, 0), -3);
        x.drop();
        Check.fine(x, "behind drop()", x.mix(c, c, 0), 119);
    }
}
