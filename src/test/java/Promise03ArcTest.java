/** Promise 3, arc: an arc more of the draft: its number; -3 (ends, weight or cost are none), -4. */
public final class Promise03ArcTest {
    public static void main(String[] args) {
        numbers();
        noSuchFrom();
        noSuchTo();
        lastNode();
        weights();
        costs();
        loopsAndRepeats();
        sixtyAtMost();
        wrongNumberBeforeNoRoom();
        refusedAddsNothing();
        goesOnBehindGraph();
        needsNoHandle();
        Check.end();
    }

    private static void numbers() {
        Check.test("Promise 3: its number, from 0");
        GraphEngine x = new GraphEngine();
        x.begin(3, true);
        Check.fine(x, "the first", x.arc(0, 1, 5, 6), 0);
        Check.fine(x, "the second", x.arc(1, 2, 7, 8), 1);
        Check.fine(x, "the third", x.arc(2, 0, 9, 10), 2);
        Expect.graph(x, "all", x.graph(), 3, true, Make.a(0, 1, 5, 6), Make.a(1, 2, 7, 8), Make.a(2, 0, 9, 10));
    }

    private static void noSuchFrom() {
        Check.test("Promise 3: -3, from is no node");
        GraphEngine x = new GraphEngine();
        x.begin(3, false);
        for (int from : new int[] {-1, 3, 4, 16, Integer.MIN_VALUE, Integer.MAX_VALUE}) {
            Check.refused(x, "from " + from, x.arc(from, 0, 1, 1), -3);
        }
    }

    private static void noSuchTo() {
        Check.test("Promise 3: -3, to is no node");
        GraphEngine x = new GraphEngine();
        x.begin(3, true);
        for (int to : new int[] {-1, 3, 4, 16, Integer.MIN_VALUE, Integer.MAX_VALUE}) {
            Check.refused(x, "to " + to, x.arc(0, to, 1, 1), -3);
        }
    }

    private static void lastNode() {
        Check.test("Promise 3: ends are 0 .. n - 1, of 16 nodes too");
        GraphEngine x = new GraphEngine();
        x.begin(16, true);
        Check.refused(x, "from 16", x.arc(16, 0, 1, 1), -3);
        Check.refused(x, "to 16", x.arc(0, 16, 1, 1), -3);
        Check.fine(x, "from 15", x.arc(15, 0, 1, 1), 0);
        Check.fine(x, "to 15", x.arc(0, 15, 1, 1), 1);
    }

    private static void weights() {
        Check.test("Promise 3: weights are -1000 .. 1000");
        GraphEngine x = new GraphEngine();
        x.begin(2, true);
        for (int weight : new int[] {-1001, 1001, Integer.MIN_VALUE, Integer.MAX_VALUE}) {
            Check.refused(x, "weight " + weight, x.arc(0, 1, weight, 0), -3);
        }
        Check.fine(x, "weight -1000", x.arc(0, 1, -1000, 0), 0);
        Check.fine(x, "weight 1000", x.arc(0, 1, 1000, 0), 1);
        Expect.graph(x, "both", x.graph(), 2, true, Make.a(0, 1, -1000), Make.a(0, 1, 1000));
    }

    private static void costs() {
        Check.test("Promise 3: costs are -1000 .. 1000");
        GraphEngine x = new GraphEngine();
        x.begin(2, true);
        for (int cost : new int[] {-1001, 1001, Integer.MIN_VALUE, Integer.MAX_VALUE}) {
            Check.refused(x, "cost " + cost, x.arc(0, 1, 0, cost), -3);
        }
        Check.fine(x, "cost -1000", x.arc(0, 1, 0, -1000), 0);
        Check.fine(x, "cost 1000", x.arc(0, 1, 0, 1000), 1);
        Expect.graph(x, "both", x.graph(), 2, true, Make.a(0, 1, 0, -1000), Make.a(0, 1, 0, 1000));
    }

    private static void loopsAndRepeats() {
        Check.test("Promise 3: from a node to the same, and the same arc again");
        GraphEngine x = new GraphEngine();
        x.begin(2, false);
        Check.fine(x, "a loop", x.arc(1, 1, 3, 4), 0);
        Check.fine(x, "the same loop", x.arc(1, 1, 3, 4), 1);
        Check.fine(x, "an arc", x.arc(1, 0, 3, 4), 2);
        Check.fine(x, "the same arc", x.arc(1, 0, 3, 4), 3);
        Check.fine(x, "turned round", x.arc(0, 1, 3, 4), 4);
        Expect.graph(x, "all five", x.graph(), 2, false, Make.a(1, 1, 3, 4), Make.a(1, 1, 3, 4),
                Make.a(1, 0, 3, 4), Make.a(1, 0, 3, 4), Make.a(0, 1, 3, 4));
    }

    private static void sixtyAtMost() {
        Check.test("Promise 3: 60 arcs at most, then -4");
        GraphEngine x = new GraphEngine();
        x.begin(16, true);
        for (int i = 0; i < 60; i++) {
            Check.fine(x, "arc " + i, x.arc(i % 16, i * 7 % 16, i, -i), i);
        }
        Check.refused(x, "the 61st", x.arc(0, 0, 0, 0), -4);
        Check.refused(x, "and again", x.arc(0, 0, 0, 0), -4);
        int g = x.graph();
        Check.fine(x, "arcs", x.of(g, 1, 0), 60);
        for (int i = 0; i < 60; i++) {
            Check.due("from of " + i, x.of(g, 3, i), i % 16);
            Check.due("to of " + i, x.of(g, 4, i), i * 7 % 16);
            Check.due("weight of " + i, x.of(g, 5, i), i);
            Check.due("cost of " + i, x.of(g, 6, i), -i);
        }
    }

    private static void wrongNumberBeforeNoRoom() {
        Check.test("Promise 3: -3 before -4");
        GraphEngine x = new GraphEngine();
        Make.draft(x, 2, true, Make.times(60, 0, 1));
        Check.refused(x, "from", x.arc(2, 0, 0, 0), -3);
        Check.refused(x, "to", x.arc(0, 2, 0, 0), -3);
        Check.refused(x, "weight", x.arc(0, 1, 1001, 0), -3);
        Check.refused(x, "cost", x.arc(0, 1, 0, -1001), -3);
        Check.refused(x, "nothing but the room", x.arc(0, 1, 0, 0), -4);
    }

    private static void refusedAddsNothing() {
        Check.test("Promise 3: what is refused adds nothing");
        GraphEngine x = new GraphEngine();
        x.begin(2, true);
        x.arc(0, 1, 5, 5);
        x.arc(0, 2, 5, 5);
        x.arc(0, 1, 1001, 5);
        x.arc(0, 1, 5, 1001);
        Check.fine(x, "the next number", x.arc(1, 0, 6, 6), 1);
        Expect.graph(x, "the draft", x.graph(), 2, true, Make.a(0, 1, 5, 5), Make.a(1, 0, 6, 6));
    }

    private static void goesOnBehindGraph() {
        Check.test("Promise 3: behind graph() the draft gets more arcs");
        GraphEngine x = new GraphEngine();
        x.begin(2, true);
        x.arc(0, 1, 5, 5);
        x.graph();
        Check.fine(x, "the next number", x.arc(1, 0, 6, 6), 1);
    }

    private static void needsNoHandle() {
        Check.test("Promise 3: an arc more where all handles are taken");
        GraphEngine x = new GraphEngine();
        Make.fillHandles(x);
        Check.fine(x, "arc(0, 0, 1, 1)", x.arc(0, 0, 1, 1), 0);
    }
}
