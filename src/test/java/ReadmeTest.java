import java.io.IOException;
import java.nio.file.Files;
import java.nio.file.Path;

/** The example of README.md: that it says what is run here, and what it answers. Runs where README.md is. */
public final class ReadmeTest {
    private static final Path README = Path.of("README.md");
    private static final Path SELF = Path.of("src", "test", "java", "ReadmeTest.java");

    public static void main(String[] args) throws IOException {
        example();
        sameLines();
        Check.end();
    }

    private static void example() {
        Check.test("README: what the example answers");
        GraphEngine x = new GraphEngine();
        x.begin(4, true);
        x.arc(0, 1, 4, 1);
        x.arc(1, 2, 2, 1);
        x.arc(0, 2, 7, 0);
        int g = x.graph();
        int w = x.ways(g, 0, 0);
        long worth = x.way(w, 2, 1);
        int last = x.step(w, 2, 1);
        long there = x.way(w, 3, 0);
        int p = x.parts(g, 1, 0);
        int first = x.members(p, 0);
        int small = x.join(g, p, true);
        long flow = x.ask(g, 12, 0, 2);
        long bad = x.view(9, 0, 0);
        int why = x.refused();
        Check.due("g", g, 0);
        Check.due("w", w, 1);
        Check.due("worth", worth, 6);
        Check.due("last", last, 1);
        Check.due("there", there, 0);
        Check.due("p", p, 2);
        Check.due("first", first, 7);
        Check.due("small", small, 3);
        Check.due("nodes of small", x.of(small, 0, 0), 2);
        Check.due("flow", flow, 9);
        Check.due("bad", bad, -1);
        Check.due("why", why, -1);
    }

    private static void sameLines() throws IOException {
        Check.test("README: the example is the one that is run here");
        String self = Files.readString(SELF);
        String readme = Files.readString(README);
        int begin = readme.indexOf("```java\n");
        int end = readme.indexOf("```\n", begin + 1);
        Check.due("there is an example", begin >= 0 && end > begin, true);
        int lines = 0;
        for (String line : readme.substring(begin, end).split("\n")) {
            String code = line.replaceAll("//.*", "").trim();
            if (!code.startsWith("```") && !code.isEmpty()) {
                lines++;
                Check.due(code + " is run", self.contains("        " + code + "\n"), true);
            }
        }
        Check.due("lines of the example", lines, 16);
    }
}
