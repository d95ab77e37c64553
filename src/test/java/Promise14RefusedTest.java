/** Promise 14, refused: what the latest call was refused for (0: nothing). */
public final class Promise14RefusedTest {
    public static void main(String[] args) {
        nothing();
        doesNotCount();
        beginThatCouldNot();
        eachCallMakesItNothing();
        eachReason();
        askersAnswerZero();
        answersThatAreNoRefusal();
        latestAlone();
        Check.end();
    }

    private static void nothing() {
        Check.test("Promise 14: 0, nothing");
        GraphEngine x = new GraphEngine();
        Check.due("before any call", x.refused(), 0);
        x.graph();
        Check.due("behind graph()", x.refused(), 0);
    }

    private static void doesNotCount() {
        Check.test("Promise 14, Terms 1: refused() itself does not count");
        GraphEngine x = new GraphEngine();
        x.view(0, 0, 0);
        for (int k = 0; k < 5; k++) {
            Check.due("time " + k, x.refused(), -1);
        }
        x.graph();
        for (int k = 0; k < 5; k++) {
            Check.due("time " + k, x.refused(), 0);
        }
    }

    private static void beginThatCouldNot() {
        Check.test("Promise 14, Terms 1: begin() that could not: -3");
        GraphEngine x = new GraphEngine();
        x.begin(0, true);
        Check.due("begin(0)", x.refused(), -3);
        x.begin(17, true);
        Check.due("begin(17)", x.refused(), -3);
        x.begin(16, true);
        Check.due("begin(16)", x.refused(), 0);
    }

    /** A call of each kind that is not refused, by its number. */
    private static void call(GraphEngine x, int k, int g, int c, int w, int p) {
        switch (k) {
            case 0: x.begin(2, true); break;
            case 1: x.arc(0, 1, 1, 1); break;
            case 2: x.graph(); break;
            case 3: x.view(g, 0, 0); break;
            case 4: x.join(g, g, false); break;
            case 5: x.join(g, p, true); break;
            case 6: x.column(g, 0, 0); break;
            case 7: x.flat(1, 1, -1, 1); break;
            case 8: x.mix(c, c, 0); break;
            case 9: x.run(g, c, 0, 0, true, 1); break;
            case 10: x.ways(g, 0, 0); break;
            case 11: x.parts(g, 0, 0); break;
            case 12: x.parts(g, 4, c); break;
            case 13: x.drop(); break;
            case 14: x.handles(); break;
            case 15: x.sort(g); break;
            case 16: x.of(g, 0, 0); break;
            case 17: x.at(c, 0); break;
            case 18: x.way(w, 0, 0); break;
            case 19: x.step(w, 0, 0); break;
            case 20: x.part(p, 0); break;
            case 21: x.members(p, 0); break;
            default: x.ask(g, k - 22, k == 33 ? 0 : 1, k > 37 ? g : 0); break;
        }
    }

    private static void eachCallMakesItNothing() {
        Check.test("Promise 14: behind each call that was not refused, 0");
        for (int k = 0; k < 40; k++) {
            GraphEngine x = new GraphEngine();
            int g = Make.graph(x, 2, true, Make.a(0, 1));
            int c = x.column(g, 0, 0);
            int w = x.ways(g, 0, 0);
            int p = x.parts(g, 0, 0);
            x.view(99, 0, 0);
            Check.due("before call " + k, x.refused(), -1);
            call(x, k, g, c, w, p);
            Check.due("behind call " + k, x.refused(), 0);
        }
    }

    private static void eachReason() {
        Check.test("Promise 14, Terms 1: -1 no such handle, -2 another sort, -3 a number, -4 no room");
        GraphEngine x = new GraphEngine();
        int g = x.graph();
        int c = x.flat(1, 0, -1, 0);
        Check.refused(x, "-1", x.view(2, 0, 0), -1);
        Check.refused(x, "-2", x.view(c, 0, 0), -2);
        Check.refused(x, "-3", x.view(g, 8, 0), -3);
        Make.fillHandles(x);
        Check.refused(x, "-4", x.view(g, 0, 0), -4);
    }

    private static void askersAnswerZero() {
        Check.test("Promise 14, Terms 1: calls that ask answer 0, where they are refused");
        GraphEngine x = new GraphEngine();
        int g = x.graph();
        int c = x.flat(1, 7, -1, 0);
        int w = x.ways(g, 2, 0);
        int p = x.parts(g, 0, 0);
        Check.denied(x, "sort, -1", x.sort(4), -1);
        Check.denied(x, "of, -1", x.of(4, 0, 0), -1);
        Check.denied(x, "of, -2", x.of(c, 0, 0), -2);
        Check.denied(x, "of, -3", x.of(g, 7, 0), -3);
        Check.denied(x, "at, -1", x.at(4, 0), -1);
        Check.denied(x, "at, -2", x.at(g, 0), -2);
        Check.denied(x, "at, -3", x.at(c, 1), -3);
        Check.denied(x, "way, -1", x.way(4, 0, 0), -1);
        Check.denied(x, "way, -2", x.way(g, 0, 0), -2);
        Check.denied(x, "way, -3", x.way(w, 1, 0), -3);
        Check.denied(x, "step, -1", x.step(4, 0, 0), -1);
        Check.denied(x, "step, -2", x.step(g, 0, 0), -2);
        Check.denied(x, "step, -3", x.step(w, 1, 0), -3);
        Check.denied(x, "part, -1", x.part(4, 0), -1);
        Check.denied(x, "part, -2", x.part(g, 0), -2);
        Check.denied(x, "part, -3", x.part(p, 1), -3);
        Check.denied(x, "members, -1", x.members(4, 0), -1);
        Check.denied(x, "members, -2", x.members(g, 0), -2);
        Check.denied(x, "ask, -1", x.ask(4, 9, 0, 0), -1);
        Check.denied(x, "ask, -2", x.ask(c, 9, 0, 0), -2);
        Check.denied(x, "ask, -3", x.ask(g, 18, 0, 0), -3);
    }

    /** Answers of -1 and 0 that the document gives to calls that can be answered. */
    private static void answersThatAreNoRefusal() {
        Check.test("Promise 14: an answer below 0 of a call that asks is no refusal");
        GraphEngine x = new GraphEngine();
        int g = Make.graph(x, 2, true, Make.a(0, 0, -5, 0));
        int w = x.ways(g, 1, 0);
        int p = x.parts(g, 0, 0);
        Check.fine(x, "no order", x.ask(g, 0, 0, 0), -1);
        Check.fine(x, "no sides", x.ask(g, 2, 0, 0), -1);
        Check.fine(x, "no numbering", x.ask(g, 17, 0, x.view(g, 2, 0)), -1);
        Check.fine(x, "arcs of no way", x.way(w, 1, 2), -1);
        Check.fine(x, "step of no way", x.step(w, 1, 0), -1);
        Check.fine(x, "no such part", x.members(p, 2), 0);
        Check.fine(x, "a weight", x.of(g, 5, 0), -5);
        Check.fine(x, "a sum", x.at(x.flat(2, -2, -1, 0), -1), -4);
    }

    private static void latestAlone() {
        Check.test("Promise 14: the latest call alone");
        GraphEngine x = new GraphEngine();
        int g = x.graph();
        x.view(9, 0, 0);
        x.view(g, 8, 0);
        Check.due("of two refused the later", x.refused(), -3);
        x.sort(9);
        Check.due("and the next", x.refused(), -1);
    }
}
