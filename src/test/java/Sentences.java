import java.io.IOException;
import java.nio.charset.StandardCharsets;
import java.nio.file.Files;
import java.nio.file.Path;
import java.util.ArrayList;
import java.util.LinkedHashMap;
import java.util.List;
import java.util.Map;
import java.util.regex.Pattern;

/** The sentences of the document, each with the test that holds it, and a look for those that no test holds. */
final class Sentences {
    private static final Path DOCUMENT = Path.of("../shared/DOC.md");
    private static final List<String> TERMS = List.of("Terms", "Verdicts", "The log", "Exceptions");
    /** The lines of a promise that name a boundary: ranges, what is thrown, and answers at an end. */
    private static final Pattern BOUNDARY = Pattern.compile("- `.*|Throws .*|Returns .*(NONE|at most|0 if|still).*"
        + "|.*Begins with empty .*|.*type 0, level 0.*");

    private static final Map<String, List<String>> lines = new LinkedHashMap<>();
    private static final Map<String, List<String>> held = new LinkedHashMap<>();
    private static String part = "";

    private Sentences() {
    }

    static void read() throws IOException {
        String heading = "";
        for (String line : Files.readAllLines(DOCUMENT, StandardCharsets.UTF_8)) {
            if (line.startsWith("#")) {
                heading = line.replaceAll("^#+ ", "");
            }
            lines.computeIfAbsent(heading, k -> new ArrayList<>()).add(line);
        }
    }

    /** What is held from here on stands under this heading of the document. */
    static void under(String heading) {
        part = heading;
        Check.is(heading + " stands in the document", lines.containsKey(heading), true);
    }

    /** Runs the test of a sentence, which has to stand in the document word for word. */
    static void holds(String sentence, Runnable test) {
        String where = part + ": " + sentence;
        boolean stands = false;
        for (String line : lines.getOrDefault(part, List.of())) {
            stands |= line.contains(sentence);
        }
        Check.is(where + " stands in the document", stands, true);
        held.computeIfAbsent(part, k -> new ArrayList<>()).add(sentence);
        Check.testing(where);
        test.run();
        Check.testing("");
    }

    static List<String> linesUnder(String heading) {
        return lines.getOrDefault(heading, List.of());
    }

    /** The heading "Promise 4: thing", for thing. */
    static String promiseOf(String call) {
        for (String heading : lines.keySet()) {
            if (heading.matches("Promise \\d+: " + call)) {
                return heading;
            }
        }
        return "";
    }

    static void noneIsLeftOut() {
        int clauses = 0;
        for (String term : TERMS) {
            for (String line : linesUnder(term)) {
                if (line.equals("The constants: `NONE = -1`: There is none.")) {
                    break;
                }
                // What does not end with a full stop is a title.
                for (String clause : line.endsWith(".") ? line.split("(?<=[.;:]) ") : new String[0]) {
                    clauses++;
                    isHeld(term, clause);
                }
            }
        }
        int boundaries = 0;
        for (String heading : lines.keySet()) {
            for (String line : heading.startsWith("Promise ") ? lines.get(heading) : List.<String>of()) {
                if (BOUNDARY.matcher(line).matches()) {
                    boundaries++;
                    isHeld(heading, line);
                }
            }
        }
        Check.is("there are clauses", clauses > 70, true);
        Check.is("there are boundaries in the promises", boundaries > 110, true);
    }

    private static void isHeld(String heading, String text) {
        for (String sentence : held.getOrDefault(heading, List.of())) {
            if (text.contains(sentence) || sentence.contains(text)) {
                return;
            }
        }
        Check.report("no test holds " + heading + ": " + text);
    }
}
