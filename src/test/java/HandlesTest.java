/** Promises 1 and 13 to 16: a new object, drop, refused, handles, sort; and the order of what is refused. */
public final class HandlesTest {
    public static void main(String[] args) {
        newObject();
        sorts();
        dropping();
        refusing();
        orderOfRefusals();
        room();
        Check.end();
    }

    private static void newObject() {
        GraphEngine x = new GraphEngine();
        Check.due("refused() of a new object", x.refused(), 0);
        Check.fine(x, "handles() of a new object", x.handles(), 0);
        Check.denied(x, "sort(0) of a new object", x.sort(0), -1);
        Check.refused(x, "drop() of a new object", x.drop(), -1);
        Check.fine(x, "graph() of the first draft", x.graph(), 0);
        Check.due("of(0, 0, 0)", x.of(0, 0, 0), 1);
        Check.due("of(0, 1, 0)", x.of(0, 1, 0), 0);
        Check.due("of(0, 2, 0)", x.of(0, 2, 0), 0);
        Check.refused(x, "arc(0, 1) of the first draft", x.arc(0, 1, 1, 1), -3);
        Check.fine(x, "arc(0, 0) of the first draft", x.arc(0, 0, 1, 1), 0);
        Check.due("another object is new", new GraphEngine().handles(), 0);
    }

    private static void sorts() {
        GraphEngine x = new GraphEngine();
        x.graph();
        x.column(0, 0, 0);
        x.ways(0, 0, 0);
        x.parts(0, 0, 0);
        x.flat(1, 5, -1, 0);
        x.view(0, 0, 0);
        x.join(0, 3, true);
        x.mix(1, 4, 0);
        x.run(0, 1, 0, 0, false, 0);
        int[] want = {1, 2, 3, 4, 2, 1, 1, 2, 2};
        Check.fine(x, "handles()", x.handles(), want.length);
        for (int h = 0; h < want.length; h++) {
            Check.fine(x, "sort(" + h + ")", x.sort(h), want[h]);
        }
        Check.denied(x, "sort(9)", x.sort(9), -1);
        Check.denied(x, "sort(-1)", x.sort(-1), -1);
        Check.denied(x, "sort(max)", x.sort(Integer.MAX_VALUE), -1);
        Check.denied(x, "sort(min)", x.sort(Integer.MIN_VALUE), -1);
    }

    private static void dropping() {
        GraphEngine x = new GraphEngine();
        x.graph();
        x.column(0, 0, 0);
        Check.fine(x, "drop()", x.drop(), 1);
        Check.due("handles() after drop()", x.handles(), 1);
        Check.denied(x, "sort(1) after drop()", x.sort(1), -1);
        Check.denied(x, "at(1, 0) after drop()", x.at(1, 0), -1);
        Check.fine(x, "the free handle again", x.parts(0, 1, 0), 1);
        Check.due("sort(1)", x.sort(1), 4);
        Check.fine(x, "drop()", x.drop(), 1);
        Check.fine(x, "drop()", x.drop(), 0);
        Check.refused(x, "drop() of none", x.drop(), -1);
        Check.fine(x, "handles()", x.handles(), 0);
        Check.fine(x, "graph() after all is gone", x.graph(), 0);
    }

    private static void refusing() {
        GraphEngine x = new GraphEngine();
        Check.due("begin(0)", x.begin(0, true), false);
        Check.due("refused()", x.refused(), -3);
        Check.due("refused() does not count itself", x.refused(), -3);
        x.handles();
        Check.due("handles() counts", x.refused(), 0);
        x.graph();
        x.view(7, 0, 0);
        Check.due("refused()", x.refused(), -1);
        x.begin(3, true);
        Check.due("begin() counts", x.refused(), 0);
        x.of(0, 9, 0);
        Check.due("refused()", x.refused(), -3);
        x.sort(0);
        Check.due("sort() counts", x.refused(), 0);
    }

    /** -1 of any handle, then -2 of any, then -3, then -4. */
    private static void orderOfRefusals() {
        GraphEngine x = new GraphEngine();
        x.begin(2, false);
        int g = x.graph();
        int c = x.flat(2, 0, -1, 0);
        int w = x.ways(g, 0, 0);
        int p = x.parts(g, 0, 0);
        Check.refused(x, "join: -2 and -1", x.join(c, 50, false), -1);
        Check.refused(x, "join: -1 and -2", x.join(50, c, false), -1);
        Check.refused(x, "join: graph and column", x.join(g, c, false), -2);
        Check.refused(x, "join: graph and parts as graphs", x.join(g, p, false), -2);
        Check.refused(x, "join: graph and graph as parts", x.join(g, g, true), -2);
        Check.refused(x, "mix: -2 and -1, and -3", x.mix(g, 50, 99), -1);
        Check.refused(x, "mix: -2 and -3", x.mix(c, w, 99), -2);
        Check.refused(x, "run: -2 and -1, and -3", x.run(c, 99, 9, 9, true, -1), -1);
        Check.refused(x, "run: -1 and -2, and -3", x.run(99, g, 9, 9, true, -1), -1);
        Check.refused(x, "run: -2 and -3", x.run(g, g, 9, 9, true, -1), -2);
        Check.refused(x, "parts: -2 and -1", x.parts(c, 4, 99), -1);
        Check.refused(x, "parts: -1 and -2", x.parts(99, 4, g), -1);
        Check.refused(x, "parts: -2", x.parts(g, 4, g), -2);
        Check.refused(x, "parts: x is no handle here", x.parts(g, 5, 99), -3);
        Check.refused(x, "view: -1 and -3", x.view(-1, 99, 0), -1);
        Check.refused(x, "view: -2 and -3", x.view(p, 99, 0), -2);
        Check.refused(x, "column: -1 and -3", x.column(99, 99, 0), -1);
        Check.refused(x, "column: -2 and -3", x.column(w, 99, 0), -2);
        Check.refused(x, "ways: -1 and -3", x.ways(99, 99, 0), -1);
        Check.refused(x, "ways: -2 and -3", x.ways(w, 99, 0), -2);
        Check.denied(x, "ask 16: -2 and -1", x.ask(c, 16, 0, 99), -1);
        Check.denied(x, "ask 17: -1 and -2", x.ask(99, 17, 99, c), -1);
        Check.denied(x, "ask 17: -2 and -3", x.ask(g, 17, 99, c), -2);
        Check.denied(x, "ask 16: -2", x.ask(p, 16, 0, g), -2);
        Check.denied(x, "ask: -1 and -3", x.ask(99, 99, 0, 0), -1);
        Check.denied(x, "ask: -2 and -3", x.ask(w, 99, 0, 0), -2);
        Check.denied(x, "of: -1 and -3", x.of(99, 99, 0), -1);
        Check.denied(x, "of: -2 and -3", x.of(c, 99, 0), -2);
        Check.denied(x, "at: -1 and -3", x.at(99, 99), -1);
        Check.denied(x, "at: -2 and -3", x.at(g, 99), -2);
        Check.denied(x, "way: -1 and -3", x.way(99, 99, 99), -1);
        Check.denied(x, "way: -2 and -3", x.way(g, 99, 99), -2);
        Check.denied(x, "step: -1 and -3", x.step(-7, 99, 0), -1);
        Check.denied(x, "step: -2 and -3", x.step(p, 99, 0), -2);
        Check.denied(x, "part: -1 and -3", x.part(99, 99), -1);
        Check.denied(x, "part: -2 and -3", x.part(w, 99), -2);
        Check.denied(x, "members: -1", x.members(99, 0), -1);
        Check.denied(x, "members: -2", x.members(g, 0), -2);
        Check.due("nothing was made by what was refused", x.handles(), 4);
    }

    private static void room() {
        GraphEngine x = new GraphEngine();
        x.begin(2, false);
        x.arc(0, 1, 5, 5);
        int g = x.graph();
        int p = x.parts(g, 0, 0);
        int c = x.flat(2, 1, -1, 0);
        for (int k = 3; k < 120; k++) {
            Check.fine(x, "flat() number " + k, x.flat(2, k, -1, 0), k);
        }
        Check.refused(x, "graph()", x.graph(), -4);
        Check.refused(x, "view()", x.view(g, 0, 0), -4);
        Check.refused(x, "join() of graphs", x.join(g, g, false), -4);
        Check.refused(x, "join() by parts", x.join(g, p, true), -4);
        Check.refused(x, "column()", x.column(g, 0, 0), -4);
        Check.refused(x, "flat()", x.flat(2, 1, -1, 0), -4);
        Check.refused(x, "mix()", x.mix(c, c, 0), -4);
        Check.refused(x, "run()", x.run(g, c, 0, 0, false, 1), -4);
        Check.refused(x, "ways()", x.ways(g, 0, 0), -4);
        Check.refused(x, "parts()", x.parts(g, 0, 0), -4);
        Check.refused(x, "parts() by a column", x.parts(g, 4, c), -4);
        Check.refused(x, "view(): -3 before -4", x.view(g, 8, 0), -3);
        Check.refused(x, "view() of no such handle before -4", x.view(120, 0, 0), -1);
        Check.refused(x, "flat(): -3 before -4", x.flat(0, 1, -1, 0), -3);
        Check.refused(x, "run(): -3 before -4", x.run(g, c, 5, 0, false, 1), -3);
        Check.refused(x, "mix(): -3 before -4", x.mix(c, c, 7), -3);
        Check.refused(x, "ways(): -3 before -4", x.ways(g, 3, 0), -3);
        Check.refused(x, "parts(): -3 before -4", x.parts(g, 5, 0), -3);
        Check.refused(x, "column(): -3 before -4", x.column(g, 7, 0), -3);
        Check.fine(x, "arc() needs no handle", x.arc(0, 0, 1, 1), 1);
        Check.fine(x, "handles()", x.handles(), 120);
        Check.fine(x, "drop()", x.drop(), 119);
        Check.fine(x, "graph() has room again", x.graph(), 119);
        Check.fine(x, "of() of the last", x.of(119, 1, 0), 2);
    }
}
