import java.io.IOException;
import java.lang.reflect.Constructor;
import java.lang.reflect.Field;
import java.lang.reflect.Method;
import java.lang.reflect.Modifier;
import java.nio.charset.StandardCharsets;
import java.nio.file.Files;
import java.nio.file.Path;
import java.util.List;
import java.util.Set;
import java.util.TreeSet;
import java.util.regex.Matcher;
import java.util.regex.Pattern;

/** The public face of DOC.md, and those rules of LANGUAGE.md that can be seen from outside. */
public final class FaceTest {
    private static final Path SOURCE = Path.of("src/main/java/AuditgateReeve.java");
    private static final Path DOCUMENT = Path.of("../shared/DOC.md");
    private static final int MOST_CLASSES = 12;
    private static final int MOST_FIELDS = 20;
    private static final int MOST_PARAMETERS = 7;
    private static final int MOST_LINES = 60;

    private FaceTest() {
    }

    public static void main(String[] args) throws IOException {
        constants();
        face();
        classes();
        source(Files.readString(SOURCE, StandardCharsets.ISO_8859_1));
        Check.end();
    }

    private static void constants() {
        Check.is("NONE", AuditgateReeve.NONE, -1);
        Check.is("LOOK", AuditgateReeve.LOOK, 1);
        Check.is("CHANGE", AuditgateReeve.CHANGE, 2);
        Check.is("RUN", AuditgateReeve.RUN, 4);
    }

    private static void face() throws IOException {
        Set<String> due = new TreeSet<>();
        String document = Files.readString(DOCUMENT);
        String told = document.substring(document.indexOf("```java"), document.lastIndexOf("```"));
        Matcher method = Pattern.compile("public (\\w+ \\w+)\\((.*?)\\)(?: throws (.*?))?;").matcher(told);
        while (method.find()) {
            String types = method.group(2).replaceAll("(\\w+) \\w+", "$1");
            due.add(method.group(1) + "(" + types + ") " + (method.group(3) == null ? "" : method.group(3)));
        }
        Set<String> got = new TreeSet<>();
        Set<String> names = new TreeSet<>();
        for (Method m : AuditgateReeve.class.getDeclaredMethods()) {
            if (Modifier.isPublic(m.getModifiers())) {
                names.add(m.getName());
                got.add(m.getReturnType().getSimpleName() + " " + m.getName() + "(" + joined(m.getParameterTypes())
                    + ") " + joined(m.getExceptionTypes()));
            }
        }
        Check.is("the methods", got.toString(), due.toString());
        Check.is("there are 33 methods", due.size(), 33);
        for (Class<?> inner : AuditgateReeve.class.getDeclaredClasses()) {
            noSuchName(inner, names);
        }
        for (Method m : AuditgateReeve.class.getDeclaredMethods()) {
            Check.is(m + " is public or private", Modifier.isPublic(m.getModifiers())
                != Modifier.isPrivate(m.getModifiers()), true);
            Check.is(m + " is private with a public one's name",
                Modifier.isPrivate(m.getModifiers()) && names.contains(m.getName()), false);
        }
        Constructor<?>[] made = AuditgateReeve.class.getDeclaredConstructors();
        Check.is("constructors", made.length, 1);
        Check.is("its parameters", made[0].getParameterCount(), 0);
        Check.is("it is public", Modifier.isPublic(made[0].getModifiers()), true);
    }

    private static void noSuchName(Class<?> inner, Set<String> names) {
        for (Method m : inner.getDeclaredMethods()) {
            Check.is(m + " has a name of the face", names.contains(m.getName()), false);
        }
    }

    private static String joined(Class<?>[] types) {
        StringBuilder text = new StringBuilder();
        for (Class<?> type : types) {
            text.append(text.length() == 0 ? "" : ", ").append(type.getSimpleName());
        }
        return text.toString();
    }

    private static void classes() {
        Class<?> outer = AuditgateReeve.class;
        Check.is("public and final", outer.getModifiers(), Modifier.PUBLIC | Modifier.FINAL);
        Check.is("without a package", outer.getPackageName(), "");
        Check.is("some twelve classes", outer.getDeclaredClasses().length < MOST_CLASSES, true);
        parts(outer);
        Set<String> constants = Set.of("NONE", "LOOK", "CHANGE", "RUN");
        for (Field field : outer.getDeclaredFields()) {
            int due = constants.contains(field.getName()) ? Modifier.PUBLIC : Modifier.PRIVATE;
            Check.is(field + " is seen", field.getModifiers() & (Modifier.PUBLIC | Modifier.PRIVATE), due);
        }
        for (Class<?> inner : outer.getDeclaredClasses()) {
            Check.is(inner + " is private and static",
                Modifier.isPrivate(inner.getModifiers()) && Modifier.isStatic(inner.getModifiers()), true);
            parts(inner);
        }
    }

    private static void parts(Class<?> part) {
        int fields = 0;
        for (Field field : part.getDeclaredFields()) {
            if (Modifier.isStatic(field.getModifiers())) {
                Check.is(field + " is final", Modifier.isFinal(field.getModifiers()), true);
            } else {
                fields++;
            }
        }
        Check.is("fields of " + part, fields <= MOST_FIELDS, true);
        for (Method m : part.getDeclaredMethods()) {
            Check.is("parameters of " + m, m.getParameterCount() <= MOST_PARAMETERS, true);
            Check.is("no lambda: " + m, m.isSynthetic(), false);
        }
    }

    /** Names that begin with a capital and go on small are of classes: its own, or those that rules 4 and 6 list. */
    private static void library(String code) {
        Set<String> known = new TreeSet<>(List.of("AuditgateReeve", "String", "StringBuilder", "Integer", "Long",
            "Math", "List", "ArrayList", "Iterator", "Iterable", "Comparable", "System", "Arrays", "IllegalStateException",
            "IllegalArgumentException", "IndexOutOfBoundsException", "ArithmeticException",
            "UnsupportedOperationException", "NoSuchElementException", "RuntimeException"));
        for (Class<?> inner : AuditgateReeve.class.getDeclaredClasses()) {
            known.add(inner.getSimpleName());
        }
        Matcher names = Pattern.compile("\\b[A-Z][a-z]\\w*").matcher(code);
        while (names.find()) {
            if (!known.contains(names.group())) {
                Check.report("the source uses " + names.group());
            }
        }
        Matcher calls = Pattern.compile("\\b(Integer|Long|Math|System|Arrays|String|List)\\.(\\w+)").matcher(code);
        Set<String> functions = Set.of("compare", "max", "min", "abs", "bitCount", "floorDiv", "floorMod", "arraycopy",
            "copyOf", "copyOfRange", "fill", "of");
        while (calls.find()) {
            if (!functions.contains(calls.group(2))) {
                Check.report("the source calls " + calls.group());
            }
        }
    }

    private static void source(String text) {
        for (int i = 0; i < text.length(); i++) {
            if (text.charAt(i) > 126 || text.charAt(i) < 32 && text.charAt(i) != '\n') {
                Check.report("the sign " + (int) text.charAt(i) + " in the source");
            }
        }
        String code = text.replaceAll("(?s)/\\*.*?\\*/", "").replaceAll("//.*", "");
        List<String> ruledOut = List.of("\\bimport\\b", "\\bpackage\\b", "->", "::", "\\bcatch\\b", "\\bfinally\\b",
            "\\bsynchronized\\b", "\\bassert\\b", "\\btry\\b", "\\bMath\\.\\w*Exact", "\\bSystem\\.(?!arraycopy)",
            "\"\\s*\\+", "\\+\\s*\"", "\\bstatic\\s*\\{", "\\bequals\\b", "\\bhashCode\\b", "\\btoString\\b");
        for (String pattern : ruledOut) {
            Matcher found = Pattern.compile(pattern).matcher(code);
            if (found.find()) {
                Check.report("the source has " + found.group());
            }
        }
        library(code.replaceAll("\"[^\"\\n]*\"", ""));
        int begun = 0;
        String[] lines = text.split("\n");
        for (int i = 0; i < lines.length; i++) {
            if (lines[i].matches(" {4}(?: {4})?\\S.*\\{") && !lines[i].contains(" class ")) {
                begun = i;
            }
            if (lines[i].matches(" {4}(?: {4})?\\}") && i - begun > MOST_LINES) {
                Check.report("the method before line " + (i + 1) + " has too many lines");
            }
        }
    }
}
