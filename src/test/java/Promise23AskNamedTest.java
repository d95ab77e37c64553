/** Promise 23, ask: graphs that are well known, with every numbering that shifts and stretches their nodes. */
public final class Promise23AskNamedTest {
    private static final int[] PETERSEN = {0, 1, 0, 4, 0, 5, 1, 2, 1, 6, 2, 3, 2, 7, 3, 4, 3, 8, 4, 9, 5, 7, 5, 8, 6, 8, 6, 9, 7, 9};
    private static final int[] WAGNER = {0, 1, 0, 4, 0, 7, 1, 2, 1, 5, 2, 3, 2, 6, 3, 4, 3, 7, 4, 5, 5, 6, 6, 7};
    private static final int[] HEAWOOD = {0, 1, 0, 5, 0, 13, 1, 2, 1, 10, 2, 3, 2, 7, 3, 4, 3, 12, 4, 5, 4, 9, 5, 6, 6, 7, 6, 11,
        7, 8, 8, 9, 8, 13, 9, 10, 10, 11, 11, 12, 12, 13};
    private static final int[] FRUCHT = {0, 1, 0, 7, 0, 11, 1, 2, 1, 11, 2, 3, 2, 10, 3, 4, 3, 5, 4, 5, 4, 9, 5, 6, 6, 7, 6, 8,
        7, 8, 8, 9, 9, 10, 10, 11};
    private static final int[] ICOSAHEDRON = {0, 1, 0, 2, 0, 3, 0, 4, 0, 5, 1, 2, 1, 5, 1, 6, 1, 7, 2, 3, 2, 7, 2, 8, 3, 4, 3, 8,
        3, 9, 4, 5, 4, 9, 4, 10, 5, 6, 5, 10, 6, 7, 6, 10, 6, 11, 7, 8, 7, 11, 8, 9, 8, 11, 9, 10, 9, 11, 10, 11};
    private static final int[] CHVATAL = {0, 1, 0, 4, 0, 6, 0, 9, 1, 2, 1, 5, 1, 7, 2, 3, 2, 6, 2, 8, 3, 4, 3, 7, 3, 9, 4, 5, 4, 8,
        5, 10, 5, 11, 6, 10, 6, 11, 7, 8, 7, 11, 8, 10, 9, 10, 9, 11};
    /** Three rings of three, each hanging by one arc on node 0. */
    private static final int[] THREE_RINGS = {0, 1, 1, 2, 2, 3, 3, 1, 0, 4, 4, 5, 5, 6, 6, 4, 0, 7, 7, 8, 8, 9, 9, 7};
    /** Two rings of five with an arc between them. */
    private static final int[] TWO_RINGS = {0, 1, 1, 2, 2, 3, 3, 4, 4, 0, 5, 6, 6, 7, 7, 8, 8, 9, 9, 5, 2, 7};
    /** Three rings of three that have node 0 in common. */
    private static final int[] WINDMILL = {0, 1, 1, 2, 2, 0, 0, 3, 3, 4, 4, 0, 0, 5, 5, 6, 6, 0};
    /** A ring of five with a ring of three at one node, and tails at two others. */
    private static final int[] FLOWER = {0, 1, 1, 2, 2, 3, 3, 4, 4, 0, 2, 5, 5, 6, 6, 2, 0, 7, 4, 8};

    public static void main(String[] args) {
        leastNumbers();
        counts();
        pairs();
        same();
        Check.end();
    }

    private static int load(GraphEngine x, int n, int[] ends, int factor, int shift) {
        x.begin(n, false);
        for (int i = 0; i < ends.length; i += 2) {
            x.arc((ends[i] * factor + shift) % n, (ends[i + 1] * factor + shift) % n, 1, 0);
        }
        return x.graph();
    }

    private static boolean haveNoDivisor(int a, int b) {
        return b == 0 ? a == 1 : haveNoDivisor(b, a % b);
    }

    private static void least(String name, int n, int[] ends, int joined, int apart) {
        GraphEngine x = new GraphEngine();
        int g = load(x, n, ends, 1, 0);
        Expect.ask(x, name, g, 3, joined);
        Expect.ask(x, name, g, 4, apart);
    }

    private static void leastNumbers() {
        Check.test("Promise 23: 3, 4 of several greatest sets the least number");
        least("Petersen's", 10, PETERSEN, 0b11, 0b1110100);
        least("Wagner's", 8, WAGNER, 0b11, 0b100101);
        least("Heawood's", 14, HEAWOOD, 0b11, 0b1010101010101);
        least("Frucht's", 12, FRUCHT, 0b111000, 0b101010100100);
        least("an icosahedron", 12, ICOSAHEDRON, 0b111, 0b1010100);
        least("Chvatal's", 12, CHVATAL, 0b11, 0b10100101);
    }

    /** How many nodes in greatest sets, colours, width, pairs. */
    private static void count(String name, int n, int[] ends, int... want) {
        for (int factor = 1; factor < n; factor++) {
            for (int shift = 0; shift < n && haveNoDivisor(n, factor); shift++) {
                GraphEngine x = new GraphEngine();
                int g = load(x, n, ends, factor, shift);
                String call = name + " by " + factor + " and " + shift;
                Check.due(call + ", joined", Long.bitCount(x.ask(g, 3, 0, 0)), want[0]);
                Check.due(call + ", apart", Long.bitCount(x.ask(g, 4, 0, 0)), want[1]);
                Expect.ask(x, call + ", colours", g, 5, want[2]);
                Expect.ask(x, call + ", width", g, 6, want[3]);
                Expect.ask(x, call + ", pairs", g, 7, want[4]);
                Expect.ask(x, call + ", missed", g, 8, 0);
            }
        }
    }

    private static void counts() {
        Check.test("Promise 23: 3 to 8, whatever the numbers of nodes");
        count("Petersen's", 10, PETERSEN, 2, 4, 3, 4, 5);
        count("Wagner's", 8, WAGNER, 2, 3, 3, 4, 4);
        count("Heawood's", 14, HEAWOOD, 2, 7, 2, 5, 7);
        count("Frucht's", 12, FRUCHT, 3, 5, 3, 3, 6);
        count("an icosahedron", 12, ICOSAHEDRON, 3, 3, 4, 6, 6);
        count("Chvatal's", 12, CHVATAL, 2, 4, 4, 6, 6);
    }

    private static void pairsOf(String name, int n, int[] ends, int most, int missed) {
        for (int factor = 1; factor < n; factor++) {
            for (int shift = 0; shift < n && haveNoDivisor(n, factor); shift++) {
                GraphEngine x = new GraphEngine();
                int g = load(x, n, ends, factor, shift);
                int set = 0;
                for (int v = 0; v < n; v++) {
                    set |= (missed >> v & 1) << (v * factor + shift) % n;
                }
                String call = name + " by " + factor + " and " + shift;
                Expect.ask(x, call + ", pairs", g, 7, most);
                Expect.ask(x, call + ", missed", g, 8, set);
            }
        }
    }

    private static void pairs() {
        Check.test("Promise 23: 7 PAIRS, 8 MISSED over rings of odd length");
        pairsOf("three rings on a node", 10, THREE_RINGS, 4, 0b1111111110);
        pairsOf("two rings of five", 10, TWO_RINGS, 5, 0);
        pairsOf("a windmill", 7, WINDMILL, 3, 0b1111111);
        pairsOf("a flower", 9, FLOWER, 4, 0b110001010);
    }

    /** Frucht's graph is the same as itself by one numbering alone. */
    private static void same() {
        Check.test("Promise 23: 16 SAME, 17 the one numbering that there is");
        for (int factor = 1; factor < 12; factor++) {
            for (int shift = 0; shift < 12 && haveNoDivisor(12, factor); shift++) {
                GraphEngine x = new GraphEngine();
                int g = load(x, 12, FRUCHT, 1, 0);
                int h = load(x, 12, FRUCHT, factor, shift);
                String call = "Frucht's by " + factor + " and " + shift;
                Expect.ask(x, call, g, 16, 0, h, 1);
                for (int v = 0; v < 12; v++) {
                    Expect.ask(x, call, g, 17, v, h, (v * factor + shift) % 12);
                }
            }
        }
    }
}
