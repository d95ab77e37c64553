/** Promise 23: ask. */
public final class AskTest {
    public static void main(String[] args) {
        order();
        rings();
        sides();
        greatestSets();
        colours();
        widths();
        pairs();
        trees();
        light();
        flows();
        flowsWithoutDirections();
        apart();
        same();
        numbering();
        wrong();
        Check.end();
    }

    private static int[] a(int... numbers) {
        return numbers;
    }

    private static void ask(GraphEngine x, String name, int g, int what, int p, int q, long want) {
        Check.fine(x, name + ": ask(" + g + ", " + what + ", " + p + ", " + q + ")", x.ask(g, what, p, q), want);
    }

    private static void order() {
        GraphEngine x = new GraphEngine();
        int g = Make.graph(x, 5, true, a(4, 1), a(1, 0), a(3, 0), a(4, 2), a(4, 2));
        int[] want = {3, 4, 1, 0, 2};
        for (int k = 0; k < 5; k++) ask(x, "order", g, 0, k, -7, want[k]);
        Check.denied(x, "place 5", x.ask(g, 0, 5, 0), -3);
        Check.denied(x, "place -1", x.ask(g, 0, -1, 0), -3);
        int ring = Make.graph(x, 3, true, a(1, 2), a(2, 1));
        for (int k = 0; k < 3; k++) ask(x, "a ring", ring, 0, k, 0, -1);
        int loop = Make.graph(x, 2, true, a(1, 1));
        ask(x, "a loop leads to its own node", loop, 0, 0, 0, -1);
        int none = Make.graph(x, 3, false);
        for (int k = 0; k < 3; k++) ask(x, "not directed, no arc", none, 0, k, 0, k);
        int one = Make.graph(x, 3, false, a(0, 1));
        ask(x, "not directed, an arc", one, 0, 2, 0, -1);
        Check.denied(x, "place 3 of none", x.ask(one, 0, 3, 0), -3);
    }

    private static void rings() {
        GraphEngine x = new GraphEngine();
        ask(x, "no ring", Make.graph(x, 3, true, a(0, 1), a(1, 2), a(0, 2)), 1, 99, -99, 0);
        ask(x, "three", Make.graph(x, 4, true, a(0, 1), a(1, 2), a(2, 0), a(2, 3)), 1, 0, 0, 3);
        ask(x, "two", Make.graph(x, 3, true, a(0, 1), a(1, 2), a(2, 0), a(2, 1)), 1, 0, 0, 2);
        ask(x, "the same arc twice, directed", Make.graph(x, 2, true, a(0, 1), a(0, 1)), 1, 0, 0, 0);
        ask(x, "a loop", Make.graph(x, 2, true, a(0, 1), a(1, 1)), 1, 0, 0, 1);
        ask(x, "there and back by one arc is none", Make.graph(x, 2, false, a(0, 1)), 1, 0, 0, 0);
        ask(x, "there and back by two", Make.graph(x, 2, false, a(0, 1), a(1, 0)), 1, 0, 0, 2);
        ask(x, "a loop, not directed", Make.graph(x, 2, false, a(0, 1), a(1, 0), a(0, 0)), 1, 0, 0, 1);
        ask(x, "four", Make.graph(x, 5, false, a(0, 1), a(1, 2), a(3, 2), a(3, 0), a(3, 4)), 1, 0, 0, 4);
        ask(x, "a tree", Make.graph(x, 5, false, a(0, 1), a(1, 2), a(3, 2), a(3, 4)), 1, 0, 0, 0);
        x.begin(16, true);
        for (int v = 0; v < 16; v++) x.arc(v, (v + 1) % 16, 0, 0);
        ask(x, "sixteen", x.graph(), 1, 0, 0, 16);
        ask(x, "sixteen, not directed", x.view(x.graph(), 1, 0), 1, 0, 0, 16);
    }

    private static void sides() {
        GraphEngine x = new GraphEngine();
        int g = Make.graph(x, 6, true, a(5, 1), a(3, 1), a(3, 4), a(2, 0));
        int[] want = {0, 0, 1, 1, 0, 1};
        for (int v = 0; v < 6; v++) ask(x, "sides", g, 2, v, 0, want[v]);
        int odd = Make.graph(x, 5, false, a(0, 1), a(2, 3), a(3, 4), a(4, 2));
        for (int v = 0; v < 5; v++) ask(x, "a ring of three elsewhere", odd, 2, v, 0, -1);
        int loop = Make.graph(x, 2, false, a(1, 1));
        ask(x, "a loop", loop, 2, 0, 0, -1);
        int even = Make.graph(x, 4, false, a(0, 1), a(1, 2), a(2, 3), a(3, 0), a(0, 1));
        ask(x, "a ring of four", even, 2, 2, 0, 0);
        ask(x, "a ring of four", even, 2, 3, 0, 1);
        Check.denied(x, "node 4", x.ask(even, 2, 4, 0), -3);
        Check.denied(x, "node -1", x.ask(even, 2, -1, 0), -3);
        Check.denied(x, "node 2 of two", x.ask(loop, 2, 2, 0), -3);
    }

    private static void greatestSets() {
        GraphEngine x = new GraphEngine();
        int g = Make.graph(x, 6, true, a(0, 1), a(1, 2), a(2, 0), a(3, 4), a(4, 5), a(5, 3), a(5, 5), a(4, 3));
        ask(x, "joined: the least number", g, 3, 0, 0, 0b000111);
        ask(x, "apart: the least number", g, 4, 0, 0, 0b001001);
        int none = Make.graph(x, 4, false, a(1, 1));
        ask(x, "joined: a node alone", none, 3, 0, 0, 1);
        ask(x, "apart: all", none, 4, 0, 0, 15);
        int p = Make.graph(x, 5, false, a(0, 4), a(1, 3), a(3, 2));
        ask(x, "joined: two", p, 3, 0, 0, 0b01010);
        ask(x, "apart: of several the least", p, 4, 0, 0, 0b00111);
        int one = Make.graph(x, 1, true);
        ask(x, "joined of one", one, 3, 0, 0, 1);
        ask(x, "apart of one", one, 4, 0, 0, 1);
    }

    private static void colours() {
        GraphEngine x = new GraphEngine();
        ask(x, "one node", Make.graph(x, 1, true, a(0, 0)), 5, 0, 0, 1);
        ask(x, "no arcs", Make.graph(x, 5, true), 5, 0, 0, 1);
        ask(x, "a ring of five", Make.graph(x, 5, true, a(0, 1), a(1, 2), a(2, 3), a(3, 4), a(4, 0)), 5, 0, 0, 3);
        ask(x, "a ring of four", Make.graph(x, 4, true, a(0, 1), a(1, 2), a(2, 3), a(3, 0)), 5, 0, 0, 2);
        x.begin(6, false);
        for (int v = 0; v < 5; v++) {
            x.arc(v, (v + 1) % 5, 0, 0);
            x.arc(v, 5, 0, 0);
        }
        ask(x, "a wheel of five", x.graph(), 5, 0, 0, 4);
        x.begin(11, false);
        for (int v = 0; v < 11; v++) for (int u = 0; u < v; u++) x.arc(u, v, 0, 0);
        ask(x, "all joined", x.graph(), 5, 0, 0, 11);
    }

    private static void widths() {
        GraphEngine x = new GraphEngine();
        ask(x, "no arcs", Make.graph(x, 5, true, a(1, 1)), 6, 0, 0, 0);
        ask(x, "a tree", Make.graph(x, 5, true, a(0, 1), a(1, 2), a(1, 3), a(3, 4)), 6, 0, 0, 1);
        ask(x, "a ring", Make.graph(x, 5, true, a(0, 1), a(1, 2), a(2, 3), a(3, 4), a(4, 0)), 6, 0, 0, 2);
        x.begin(16, false);
        for (int v = 0; v < 16; v++) {
            if (v % 4 != 3) x.arc(v, v + 1, 0, 0);
            if (v < 12) x.arc(v, v + 4, 0, 0);
        }
        ask(x, "four by four", x.graph(), 6, 0, 0, 4);
        x.begin(11, false);
        for (int v = 0; v < 11; v++) for (int u = 0; u < v; u++) x.arc(u, v, 0, 0);
        ask(x, "all joined", x.graph(), 6, 0, 0, 10);
        x.begin(10, false);
        for (int v = 0; v < 5; v++) for (int u = 5; u < 10; u++) x.arc(u, v, 0, 0);
        ask(x, "five with five", x.graph(), 6, 0, 0, 5);
    }

    private static void pairs() {
        GraphEngine x = new GraphEngine();
        int none = Make.graph(x, 3, true, a(1, 1));
        ask(x, "no pairs", none, 7, 0, 0, 0);
        ask(x, "all missed", none, 8, 0, 0, 7);
        int row = Make.graph(x, 5, true, a(0, 1), a(1, 2), a(2, 3), a(3, 4));
        ask(x, "a row of five", row, 7, 0, 0, 2);
        ask(x, "every other one", row, 8, 0, 0, 0b10101);
        int four = Make.graph(x, 4, false, a(0, 1), a(1, 2), a(2, 3));
        ask(x, "a row of four", four, 7, 0, 0, 2);
        ask(x, "none missed", four, 8, 0, 0, 0);
        int star = Make.graph(x, 4, false, a(3, 0), a(3, 1), a(3, 2));
        ask(x, "a star", star, 7, 0, 0, 1);
        ask(x, "its ends", star, 8, 0, 0, 0b0111);
        int two = Make.graph(x, 7, false, a(0, 1), a(1, 2), a(2, 0), a(2, 3), a(3, 4), a(4, 5), a(5, 6), a(6, 4));
        ask(x, "rings of three", two, 7, 0, 0, 3);
        ask(x, "one of each ring", two, 8, 0, 0, 0b1110111);
        x.begin(10, false);
        for (int v = 0; v < 5; v++) {
            x.arc(v, (v + 1) % 5, 0, 0);
            x.arc(v, v + 5, 0, 0);
            x.arc(v + 5, (v + 2) % 5 + 5, 0, 0);
        }
        int petersen = x.graph();
        ask(x, "five pairs", petersen, 7, 0, 0, 5);
        ask(x, "none missed", petersen, 8, 0, 0, 0);
    }

    private static void trees() {
        GraphEngine x = new GraphEngine();
        ask(x, "one node", Make.graph(x, 1, true, a(0, 0)), 9, 0, 0, 1);
        ask(x, "not together", Make.graph(x, 3, true, a(0, 1)), 9, 0, 0, 0);
        ask(x, "several arcs of one pair", Make.graph(x, 2, true, a(0, 1), a(1, 0), a(0, 1), a(1, 1)), 9, 0, 0, 3);
        ask(x, "a ring of four", Make.graph(x, 4, true, a(0, 1), a(2, 1), a(2, 3), a(0, 3)), 9, 0, 0, 4);
        x.begin(11, false);
        for (int v = 0; v < 11; v++) for (int u = 0; u < v; u++) x.arc(u, v, 0, 0);
        long want = 1;
        for (int i = 0; i < 9; i++) want = want * 11 % 1000000007L;
        ask(x, "11 to the 9, modulo", x.graph(), 9, 0, 0, want);
        x.begin(16, false);
        for (int i = 0; i < 60; i++) x.arc(i / 4, i / 4 + 1, 0, 0);
        ask(x, "4 to the 15, modulo", x.graph(), 9, 0, 0, (1L << 30) % 1000000007L);
    }

    private static void light() {
        GraphEngine x = new GraphEngine();
        int g = Make.graph(x, 6, true, a(0, 1, 5), a(2, 1, 5), a(0, 2, 5), a(3, 3, -9), a(3, 4, -2), a(4, 3, -3), a(1, 0, 4));
        ask(x, "light", g, 10, 0, 0, 4 + 5 - 3);
        int[] want = {0, 1, 0, 0, 0, 1, 1};
        for (int i = 0; i < 7; i++) ask(x, "among these", g, 11, i, 0, want[i]);
        Check.denied(x, "arc 7", x.ask(g, 11, 7, 0), -3);
        Check.denied(x, "arc -1", x.ask(g, 11, -1, 0), -3);
        int none = Make.graph(x, 3, false);
        ask(x, "no arcs", none, 10, 0, 0, 0);
        Check.denied(x, "arc 0 of none", x.ask(none, 11, 0, 0), -3);
        int same = Make.graph(x, 3, false, a(0, 1, 2), a(0, 1, 2), a(1, 2, 2), a(0, 2, 2));
        for (int i = 0; i < 4; i++) ask(x, "lesser numbers are taken", same, 11, i, 0, i == 0 || i == 2 ? 1 : 0);
    }

    private static void flows() {
        GraphEngine x = new GraphEngine();
        int g = Make.graph(x, 6, true, a(0, 1, 7, 1), a(0, 2, 9, 2), a(1, 3, 4, 3), a(2, 1, 5, 0), a(2, 4, 3, 5),
                a(3, 5, 9, 1), a(4, 5, 9, 1), a(1, 4, 2, -8), a(5, 0, 50, 0), a(0, 5, -6, 0), a(1, 1, 100, 0));
        ask(x, "flow", g, 12, 0, 5, 9);
        ask(x, "cut", g, 13, 0, 5, 0b000111);
        ask(x, "price", g, 14, 0, 5, 4 * 3 + 2 * 0 + 3 * 5 + 4 + 5 + 6 * 1 + 3 * 2);
        ask(x, "back", g, 12, 5, 0, 50);
        ask(x, "cut back", g, 13, 5, 0, 0b100000);
        ask(x, "price back", g, 14, 5, 0, 0);
        int none = Make.graph(x, 3, true, a(1, 0, 5, 5), a(0, 2, 5, 5));
        ask(x, "no flow", none, 12, 0, 1, 0);
        ask(x, "cut of no flow", none, 13, 0, 1, 0b101);
        ask(x, "price of no flow", none, 14, 0, 1, 0);
        int zero = Make.graph(x, 2, true, a(0, 1, 0, 5), a(0, 1, -1000, 5));
        ask(x, "nothing by arcs below 0", zero, 12, 0, 1, 0);
        ask(x, "cut", zero, 13, 0, 1, 1);
        ask(x, "price", zero, 14, 0, 1, 0);
        x.begin(2, true);
        for (int i = 0; i < 60; i++) x.arc(0, 1, 1000, 1000);
        int most = x.graph();
        ask(x, "the most", most, 12, 0, 1, 60000);
        ask(x, "the dearest", most, 14, 0, 1, 60000000);
        int turn = Make.graph(x, 4, true, a(0, 1, 1, 1), a(0, 2, 1, 10), a(1, 2, 1, 1), a(1, 3, 1, 10), a(2, 3, 1, 1));
        ask(x, "the cheapest way is taken back", turn, 14, 0, 3, 22);
    }

    private static void flowsWithoutDirections() {
        GraphEngine x = new GraphEngine();
        int g = Make.graph(x, 4, false, a(1, 0, 3, 2), a(1, 2, 2, 4), a(3, 2, 9, 1), a(0, 3, 1, 100));
        ask(x, "either way", g, 12, 0, 2, 3);
        ask(x, "either way back", g, 12, 2, 0, 3);
        ask(x, "cut", g, 13, 0, 2, 0b0011);
        ask(x, "cut back", g, 13, 2, 0, 0b1100);
        ask(x, "price", g, 14, 0, 2, 2 * 6 + 101);
    }

    private static void apart() {
        GraphEngine x = new GraphEngine();
        int g = Make.graph(x, 5, true, a(0, 1, -5), a(1, 4, 0), a(0, 2, 9), a(2, 1, 9), a(2, 4, 9), a(0, 4, 9), a(0, 4, 9), a(4, 0, 1));
        ask(x, "apart, whatever the weights", g, 15, 0, 4, 4);
        ask(x, "apart back", g, 15, 4, 0, 1);
        ask(x, "none", g, 15, 0, 3, 0);
        int u = x.view(g, 1, 0);
        ask(x, "not directed", u, 15, 0, 4, 5);
        ask(x, "not directed, to 1", u, 15, 4, 1, 3);
    }

    private static void same() {
        GraphEngine x = new GraphEngine();
        int g = Make.graph(x, 3, true, a(0, 1, 5, 1), a(1, 2, 6, 2));
        int h = Make.graph(x, 3, true, a(2, 0, 6, 2), a(1, 2, 5, 1));
        ask(x, "the same", g, 16, -99, h, 1);
        ask(x, "itself", g, 16, 0, g, 1);
        ask(x, "another direction", g, 16, 0, Make.graph(x, 3, true, a(0, 2, 6, 2), a(1, 2, 5, 1)), 0);
        ask(x, "another weight", g, 16, 0, Make.graph(x, 3, true, a(2, 0, 7, 2), a(1, 2, 5, 1)), 0);
        ask(x, "another cost", g, 16, 0, Make.graph(x, 3, true, a(2, 0, 6, 3), a(1, 2, 5, 1)), 0);
        ask(x, "not directed", g, 16, 0, x.view(g, 1, 0), 0);
        ask(x, "more nodes", g, 16, 0, Make.graph(x, 4, true, a(0, 1, 5, 1), a(1, 2, 6, 2)), 0);
        ask(x, "an arc more", g, 16, 0, Make.graph(x, 3, true, a(0, 1, 5, 1), a(1, 2, 6, 2), a(1, 2, 6, 2)), 0);
        int u = Make.graph(x, 2, false, a(0, 1, 1, 1), a(0, 1, 1, 1), a(0, 1, 2, 1));
        ask(x, "as often", u, 16, 0, Make.graph(x, 2, false, a(0, 1, 1, 1), a(0, 1, 2, 1), a(0, 1, 2, 1)), 0);
        ask(x, "ends in either order", u, 16, 0, Make.graph(x, 2, false, a(1, 0, 2, 1), a(0, 1, 1, 1), a(1, 0, 1, 1)), 1);
        int six = Make.graph(x, 6, false, a(0, 1), a(1, 2), a(2, 3), a(3, 4), a(4, 5), a(5, 0));
        int threes = Make.graph(x, 6, false, a(0, 1), a(1, 2), a(2, 0), a(3, 4), a(4, 5), a(5, 3));
        ask(x, "a ring of six is not two of three", six, 16, 0, threes, 0);
        ask(x, "numbering of what is not the same", six, 17, 3, threes, -1);
    }

    private static void numbering() {
        GraphEngine x = new GraphEngine();
        int g = Make.graph(x, 4, true, a(3, 0, 5, 1), a(3, 1, 5, 1), a(3, 2, 5, 1));
        int h = Make.graph(x, 4, true, a(1, 0, 5, 1), a(1, 2, 5, 1), a(1, 3, 5, 1));
        int[] want = {0, 2, 3, 1};
        for (int v = 0; v < 4; v++) ask(x, "the lesser first", g, 17, v, h, want[v]);
        for (int v = 0; v < 4; v++) ask(x, "itself", h, 17, v, h, v);
        int ring = Make.graph(x, 4, false, a(0, 2), a(2, 1), a(1, 3), a(3, 0));
        int other = Make.graph(x, 4, false, a(0, 1), a(1, 2), a(2, 3), a(3, 0));
        int[] around = {0, 2, 1, 3};
        for (int v = 0; v < 4; v++) ask(x, "a ring", ring, 17, v, other, around[v]);
        Check.denied(x, "node 4", x.ask(g, 17, 4, h), -3);
        Check.denied(x, "node -1", x.ask(g, 17, -1, h), -3);
        Check.denied(x, "node 4, not the same", x.ask(g, 17, 4, ring), -3);
        ask(x, "not the same", g, 17, 0, ring, -1);
        Check.denied(x, "no handle y", x.ask(g, 17, 0, 99), -1);
        Check.denied(x, "no handle y", x.ask(g, 16, 0, -1), -1);
        int c = x.flat(4, 0, -1, 0);
        Check.denied(x, "y is a column", x.ask(g, 16, 0, c), -2);
        Check.denied(x, "y is a column", x.ask(g, 17, 0, c), -2);
    }

    private static void wrong() {
        GraphEngine x = new GraphEngine();
        int g = Make.graph(x, 3, true, a(0, 1, 1, 1));
        int c = x.flat(3, 0, -1, 0);
        Check.denied(x, "what 18", x.ask(g, 18, 0, 0), -3);
        Check.denied(x, "what -1", x.ask(g, -1, 0, 0), -3);
        for (int what = 12; what <= 15; what++) {
            Check.denied(x, "x is y", x.ask(g, what, 1, 1), -3);
            Check.denied(x, "x is no node", x.ask(g, what, 3, 1), -3);
            Check.denied(x, "y is no node", x.ask(g, what, 1, 3), -3);
            Check.denied(x, "x below", x.ask(g, what, -1, 1), -3);
            Check.denied(x, "y below", x.ask(g, what, 1, -1), -3);
        }
        for (int what = 0; what <= 17; what++) {
            Check.denied(x, "no handle", x.ask(9, what, 0, 1), -1);
            Check.denied(x, "a column", x.ask(c, what, 0, 0), -2);
        }
        for (int what : new int[] {1, 3, 4, 5, 6, 7, 8, 9, 10}) {
            long answer = x.ask(g, what, 0, 0);
            Check.fine(x, "x and y do not count for " + what, x.ask(g, what, -99, 99), answer);
        }
    }
}
