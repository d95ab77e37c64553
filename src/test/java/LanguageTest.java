import java.io.IOException;
import java.lang.reflect.Method;
import java.lang.reflect.Modifier;
import java.nio.file.Files;
import java.nio.file.Path;
import java.util.List;
import java.util.Set;
import java.util.TreeSet;
import java.util.regex.Matcher;
import java.util.regex.Pattern;

/** What of ../shared/LANGUAGE.md can be seen in the text of the program. Runs where src/main/java is. */
public final class LanguageTest {
    private static final Path SOURCE = Path.of("src", "main", "java", "GraphEngine.java");
    private static final int MOST_LINES = 60;
    private static final int MOST_PARAMETERS = 7;
    private static final int MOST_CLASSES = 12;
    /** Calls of the library that rule 4 lists and the program needs. */
    private static final String LIBRARY = "Math\\.(min|max)|Integer\\.bitCount|System\\.arraycopy|Arrays\\.(fill|copyOf)";

    public static void main(String[] args) throws IOException {
        List<String> lines = Files.readAllLines(SOURCE);
        String code = withoutComments(String.join("\n", lines));
        words(code);
        library(code);
        classes(code);
        names(code);
        nullFields(code);
        staticFields(code);
        methods(code.split("\n"));
        Check.end();
    }

    private static String withoutComments(String text) {
        Matcher comment = Pattern.compile("/\\*.*?\\*/", Pattern.DOTALL).matcher(text);
        String kept = comment.replaceAll(found -> "\n".repeat((int) found.group().chars().filter(c -> c == '\n').count()));
        return kept.replaceAll("//[^\n]*", "");
    }

    private static int count(String code, String pattern) {
        Matcher m = Pattern.compile(pattern).matcher(code);
        int found = 0;
        while (m.find()) found++;
        return found;
    }

    private static void words(String code) {
        Check.test("Language, rules 2, 6, 13: words that the program does without");
        String[] none = {"->", "::", "\\bassert\\b", "\\bsynchronized\\b", "\\bfinally\\b", "\\bpackage\\b", "\\bcatch\\b",
            "\\bprotected\\b", "\\bhashCode\\b", "\\btoString\\b", "Exact\\b", "\\bdouble\\b", "\\bfloat\\b", "\\bstatic \\{"};
        for (String word : none) {
            Check.due(word, count(code, word), 0);
        }
    }

    private static void library(String code) {
        Check.test("Language, rule 4: nothing of the library but what it lists");
        Check.due("imports", count(code, "\\bimport\\b"), 1);
        Check.due("java.util.Arrays", count(code, "import java\\.util\\.Arrays;"), 1);
        int used = count(code, "\\b(Math|Integer|Long|System|Arrays|String|StringBuilder|List|ArrayList)\\.");
        Check.due("all that is used is listed", count(code, "\\b(" + LIBRARY + ")\\b"), used);
    }

    private static void classes(String code) {
        Check.test("Language, rules 1, 2, 11: classes");
        Check.due("twelve at most", count(code, "\\bclass\\b") <= MOST_CLASSES, true);
        Check.due("all but the first are private and static", count(code, "private (abstract )?static (final )?class\\b"),
                count(code, "\\bclass\\b") - 1);
    }

    private static void names(String code) {
        Check.test("Language, rule 1: no private method bears the name of a public one");
        Set<String> face = new TreeSet<>();
        for (Method m : GraphEngine.class.getDeclaredMethods()) {
            if (Modifier.isPublic(m.getModifiers())) face.add(m.getName());
        }
        Check.due("public names", face.size(), 22);
        for (String name : face) {
            Check.due("private " + name, count(code, "\\bprivate (static )?[\\w\\[\\]]+ " + name + "\\("), 0);
        }
    }

    private static void nullFields(String code) {
        Check.test("Language, rule 7: no field that holds a reference can be null, for all of them are final");
        Check.due("fields that change", count(code, "(?m)^ +(private )?(?!abstract|final|static|return)[A-Z]\\w*(\\[\\])? \\w+;"), 0);
        Check.due("rows that change", count(code, "(?m)^ +(private )?(int|long|boolean)\\[\\] \\w+;"), 0);
    }

    private static void staticFields(String code) {
        Check.test("Language, rule 5: static fields are final");
        Check.due("static fields", count(code, "\\bstatic (?!final)\\w+(\\[\\])* \\w+( =|;)"), 0);
    }

    private static void methods(String[] lines) {
        Check.test("Language, rule 11: methods are short and take few parameters");
        Pattern head = Pattern.compile("^( {4}| {8})(?! |if|for|switch|return|else)[\\w\\[\\] ]+\\((.*)\\) \\{$");
        int found = 0;
        for (int i = 0; i < lines.length; i++) {
            Matcher m = head.matcher(lines[i]);
            if (m.matches()) {
                found++;
                String end = m.group(1) + "}";
                int last = i;
                while (last < lines.length - 1 && !lines[last].equals(end)) last++;
                Check.due(lines[i].trim() + " is short", last - i + 1 <= MOST_LINES, true);
                Check.due(lines[i].trim() + " takes few", m.group(2).split(",").length <= MOST_PARAMETERS, true);
            }
        }
        Check.due("methods are found", found > 100, true);
    }
}
