import java.io.IOException;
import java.nio.charset.StandardCharsets;
import java.nio.file.Files;
import java.nio.file.Path;
import java.util.ArrayList;
import java.util.LinkedHashMap;
import java.util.List;
import java.util.Map;

/** The sentences of the document, each with the test that holds it, and a look for those that no test holds. */
final class Sentences {
    private static final Path DOCUMENT = Path.of("../shared/DOC.md");
    private static final String FENCE = "```";
    private static final String PROMISE = "Promise ";
    /** The parts of "Terms", in which lines without a full stop are titles. */
    private static final List<String> TERMS = List.of("Terms", "Verdicts", "The log", "Exceptions");

    private static final Map<String, List<String>> lines = new LinkedHashMap<>();
    private static final Map<String, List<String>> held = new LinkedHashMap<>();
    /** The lines of the public face, which FaceTest compares with the class. */
    private static final List<String> face = new ArrayList<>();
    private static String part = "";

    private Sentences() {
    }

    static void read() throws IOException {
        String heading = "";
        boolean isFace = false;
        for (String line : Files.readAllLines(DOCUMENT, StandardCharsets.UTF_8)) {
            if (line.startsWith(FENCE)) {
                isFace = !isFace;
            } else if (isFace) {
                face.add(line.strip());
            } else if (line.startsWith("#")) {
                heading = line.replaceAll("^#+ ", "");
                lines.put(heading, new ArrayList<>());
            } else if (!line.isBlank()) {
                lines.get(heading).add(line);
            }
        }
    }

    /** What is held from here on stands under this heading of the document. */
    static void under(String heading) {
        part = heading;
        Check.is(heading + " stands in the document", lines.containsKey(heading), true);
    }

    /** Runs the test of a sentence, which has to stand in the document word for word. */
    static void holds(String sentence, Runnable test) {
        stands(sentence);
        Check.testing(part + ": " + sentence);
        test.run();
        Check.testing("");
    }

    /** A sentence that leaves the class free, so that there is nothing in it to test. */
    static void free(String sentence) {
        stands(sentence);
    }

    private static void stands(String sentence) {
        boolean stands = false;
        for (String line : linesUnder(part)) {
            stands |= line.contains(sentence);
        }
        Check.is(part + ": " + sentence + " stands in the document", stands, true);
        held.computeIfAbsent(part, k -> new ArrayList<>()).add(sentence);
    }

    static List<String> linesUnder(String heading) {
        return lines.getOrDefault(heading, List.of());
    }

    /** The heading "Promise 4: thing", for thing. */
    static String promiseOf(String call) {
        for (String heading : lines.keySet()) {
            if (heading.matches(PROMISE + "\\d+: " + call)) {
                return heading;
            }
        }
        return "";
    }

    /** Reports every word, from the first line to the last, that is neither held by a test nor free. */
    static void noneIsLeftOut() {
        int promises = 0;
        int words = 0;
        for (String heading : lines.keySet()) {
            promises += heading.startsWith(PROMISE) ? 1 : 0;
            for (String line : linesUnder(heading)) {
                words += line.split(" ").length;
                if (!TERMS.contains(heading) || line.endsWith(".")) {
                    reportLeftOut(heading, line);
                }
            }
        }
        Check.is("the promises", promises, 34);
        Check.is("there are words", words > 2500, true);
    }

    private static void reportLeftOut(String heading, String line) {
        boolean[] isHeld = new boolean[line.length()];
        for (String sentence : held.getOrDefault(heading, List.of())) {
            for (int at = line.indexOf(sentence); at >= 0; at = line.indexOf(sentence, at + 1)) {
                mark(isHeld, at, at + sentence.length());
            }
        }
        mark(isHeld, 0, signatureEnd(heading, line));
        StringBuilder left = new StringBuilder();
        for (int i = 0; i < isHeld.length; i++) {
            left.append(isHeld[i] ? ' ' : line.charAt(i));
        }
        if (!left.toString().isBlank()) {
            Check.report("no test holds " + heading + ": " + left.toString().strip());
        }
    }

    private static void mark(boolean[] places, int from, int to) {
        for (int i = from; i < to; i++) {
            places[i] = true;
        }
    }

    /** A promise begins with its call, which has to be the one of the public face. */
    private static int signatureEnd(String heading, String line) {
        int end = line.indexOf("`: ");
        if (!heading.startsWith(PROMISE) || !line.startsWith("`") || end < 0) {
            return 0;
        }
        String call = "public " + line.substring(1, end) + ";";
        Check.is(call + " is in the public face", face.contains(call), true);
        return end + 2;
    }
}
