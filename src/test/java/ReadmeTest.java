import java.io.IOException;
import java.lang.reflect.Method;
import java.lang.reflect.Modifier;
import java.nio.file.Files;
import java.nio.file.Path;
import java.util.ArrayList;
import java.util.List;
import java.util.Set;
import java.util.TreeSet;
import java.util.regex.Matcher;
import java.util.regex.Pattern;
import java.util.stream.Stream;

/** README.md: its examples answer what they say, and it names every call, every exception and every test. */
public final class ReadmeTest {
    private static final Path README = Path.of("README.md");
    private static final Path TESTS = Path.of("src/test/java");
    private static final String BEGIN = "// README";
    private static final String END = "// end";

    private ReadmeTest() {
    }

    public static void main(String[] args) throws IOException {
        String readme = Files.readString(README);
        examples();
        examplesAreThese(readme);
        callsAndExceptions(readme);
        tests(readme);
        Check.end();
    }

    private static void examples() {
        // README
        AuditgateReeve reeve = new AuditgateReeve();
        reeve.rule(0, 0, AuditgateReeve.LOOK | AuditgateReeve.CHANGE);  // domain 0 may look at type 0, and change it
        reeve.member(3, false, 2, true);                                // user 2 is in group 3
        int file = reeve.thing(AuditgateReeve.NONE, 1, 3, 0710);        // of user 1 and group 3, which may look at it
        int editor = reeve.process(2, 0, 0, 0, 0, 0);                   // of user 2, in domain 0
        int looked = reeve.act(editor, file, AuditgateReeve.LOOK);      // 0: it is allowed
        int changed = reeve.act(editor, file, AuditgateReeve.CHANGE);   // 1: modes and entries do not allow it
        int logged = reeve.logged(1, 4);                                // 1: the verdict of the second entry of the log
        int least = reeve.least(2, file, AuditgateReeve.LOOK);          // 1: only the group's right would have to go
        // end
        Check.is("looked", looked, 0);
        Check.is("changed", changed, 1);
        Check.is("logged", logged, 1);
        Check.is("least", least, 1);
        // README
        int before;
        try {
            before = reeve.mode(editor, file, 0777);
        } catch (UnsupportedOperationException refused) {
            before = AuditgateReeve.NONE;                               // user 2 is not the owner: nothing was changed
        }
        // end
        Check.is("before", before, AuditgateReeve.NONE);
        Check.is("the mode is as it was", reeve.mode(reeve.process(1, 0, 0, 0, 0, 0), file, 0), 0710);
    }

    private static void examplesAreThese(String readme) throws IOException {
        List<String> told = between(readme.lines().toList(), "```java", "```");
        List<String> run = between(Files.readAllLines(TESTS.resolve("ReadmeTest.java")), BEGIN, END);
        Check.is("there are examples", told.isEmpty(), false);
        Check.is("the examples", String.join("\n", told), String.join("\n", run));
    }

    private static List<String> between(List<String> lines, String begin, String end) {
        List<String> found = new ArrayList<>();
        boolean isBetween = false;
        for (String line : lines) {
            String bare = line.strip();
            if (bare.equals(isBetween ? end : begin)) {
                isBetween = !isBetween;
            } else if (isBetween) {
                found.add(bare);
            }
        }
        return found;
    }

    private static void callsAndExceptions(String readme) {
        for (Method method : AuditgateReeve.class.getDeclaredMethods()) {
            if (Modifier.isPublic(method.getModifiers())) {
                isNamed(readme, method.getName());
                for (Class<?> exception : method.getExceptionTypes()) {
                    isNamed(readme, exception.getSimpleName());
                }
            }
        }
    }

    private static void isNamed(String readme, String name) {
        Check.is("README names " + name, readme.contains("`" + name + "`"), true);
    }

    private static void tests(String readme) throws IOException {
        Set<String> there = new TreeSet<>();
        try (Stream<Path> files = Files.list(TESTS)) {
            files.map(file -> file.getFileName().toString()).filter(name -> name.endsWith("Test.java"))
                .forEach(name -> there.add(name.replace(".java", "")));
        }
        Set<String> named = new TreeSet<>();
        Matcher names = Pattern.compile("`(\\w+Test)`").matcher(readme);
        while (names.find()) {
            named.add(names.group(1));
        }
        Check.is("the tests that README names", named.toString(), there.toString());
    }
}
