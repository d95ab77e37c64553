/** Promise 1, a new object: no handles; the draft has one node, is not directed. */
public final class Promise01NewObjectTest {
    public static void main(String[] args) {
        noHandles();
        nothingRefused();
        oneNode();
        notDirected();
        ofItsOwn();
        callsToTheLast();
        Check.end();
    }

    private static void noHandles() {
        Check.test("Promise 1: no handles");
        GraphEngine x = new GraphEngine();
        Check.fine(x, "handles()", x.handles(), 0);
        Check.denied(x, "sort(0)", x.sort(0), -1);
        Check.refused(x, "view(0, 0, 0)", x.view(0, 0, 0), -1);
        Check.refused(x, "drop()", x.drop(), -1);
        Check.fine(x, "the first handle", x.graph(), 0);
    }

    private static void nothingRefused() {
        Check.test("Promise 1: nothing has been refused yet");
        Check.due("refused()", new GraphEngine().refused(), 0);
    }

    private static void oneNode() {
        Check.test("Promise 1: the draft has one node");
        GraphEngine x = new GraphEngine();
        Expect.graph(x, "the first draft", x.graph(), 1, false);
        Check.refused(x, "arc(0, 1, 1, 1)", x.arc(0, 1, 1, 1), -3);
        Check.refused(x, "arc(1, 0, 1, 1)", x.arc(1, 0, 1, 1), -3);
        Check.fine(x, "arc(0, 0, 1, 1)", x.arc(0, 0, 1, 1), 0);
    }

    private static void notDirected() {
        Check.test("Promise 1: the draft is not directed");
        GraphEngine x = new GraphEngine();
        x.arc(0, 0, 1, 1);
        int g = x.graph();
        Check.fine(x, "of(g, 2, 0)", x.of(g, 2, 0), 0);
        Expect.column(x, "a loop counts twice", x.column(g, 0, 0), 2);
    }

    private static void ofItsOwn() {
        Check.test("Promise 1: what one object has another does not");
        GraphEngine x = new GraphEngine();
        x.begin(7, true);
        x.arc(1, 2, 3, 4);
        x.graph();
        x.view(9, 9, 9);
        GraphEngine y = new GraphEngine();
        Check.due("refused() of another", y.refused(), 0);
        Check.due("handles() of another", y.handles(), 0);
        Expect.graph(y, "the draft of another", y.graph(), 1, false);
        Check.due("refused() of the first", x.refused(), -1);
        Check.due("handles() of the first", x.handles(), 1);
    }

    /** An object is used for at most 512 calls: the last of them answers as the first did. */
    private static void callsToTheLast() {
        Check.test("What it is: an object is used for 512 calls");
        GraphEngine x = new GraphEngine();
        Check.due("call 1", x.begin(2, true), true);
        Check.due("call 2", x.arc(0, 1, 5, 6), 0);
        Check.due("call 3", x.graph(), 0);
        for (int call = 4; call < 512; call += 2) {
            Check.due("call " + call, x.view(0, 0, 0), 1);
            Check.due("call " + (call + 1), x.drop(), 1);
        }
        Check.due("call 512", x.ask(0, 12, 0, 1), 5);
    }
}
