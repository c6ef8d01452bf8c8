import java.io.IOException;
import java.io.UncheckedIOException;
import java.nio.charset.StandardCharsets;
import java.nio.file.Files;
import java.nio.file.Path;
import java.util.ArrayList;
import java.util.List;
import java.util.regex.Matcher;
import java.util.regex.Pattern;

/** The sentences of the document's first and last lines, of the constants, and of what stands ahead of the calls. */
final class Interface {
    private static final Path SOURCE = Path.of("src/main/java/AuditgateReeve.java");
    private static final Pattern CALL = Pattern.compile("\\n {4}public \\w+ (\\w+)\\(");
    private static final String AHEAD = "Ahead of the calls ";
    private static final String RULER = "---- ";

    private Interface() {
    }

    static void all() {
        Sentences.under("What it is");
        Sentences.holds("Auditgate Reeve, rights and audit of a system: users, groups within groups, modes, entries "
            + "with masks that are inherited, levels and categories, domains and types by rules, runs that change "
            + "users and domains, filters that are stacked, fine rights that are bounded, tokens that are narrowed and "
            + "handed on, a log in a chain, how far one could come, and the least change that forbids something.",
            Interface::allOfIt);
        Sentences.free("; what later calls answer is free.");
        Sentences.under("Exceptions");
        Sentences.holds("The constants: `NONE = -1`: There is none.", Interface::thereIsNone);
        Sentences.holds("`LOOK = 1, CHANGE = 2, RUN = 4`: Rights.", Interface::rights);
        for (String line : Sentences.linesUnder("Exceptions")) {
            if (line.startsWith(AHEAD)) {
                Sentences.holds(line, () -> standsAhead(line));
            }
        }
        Sentences.under("Not promised");
        Sentences.free("How the state is held inside the object is free, as are the speed of each call, the text of "
            + "toString and the behaviour of equals and hashCode.");
        Sentences.free("Use of one object from several threads at once is not promised to be safe.");
        Sentences.free("Nothing is promised beyond the answers and state changes described above, and nothing about an "
            + "object after its 512th call.");
    }

    /** All that the sentence names, in its order, on one object. */
    private static void allOfIt() {
        AuditgateReeve x = Worlds.withRules();
        x.member(1, false, 2, true);
        x.member(0, true, 1, true);
        Check.is("users, groups within groups", x.groups(2), 3);
        int clerk = x.process(2, 0, 1, 1, 0, 6);
        int guard = x.process(3, 0, 3, 7, 7, 7);
        int book = x.thing(Worlds.NONE, 1, 0, 0710);
        Check.is("modes", x.act(clerk, book, Worlds.LOOK), 0);
        x.entry(guard, book, true, 1, 7, true);
        x.mask(guard, book, 5);
        int page = x.thing(book, 1, 5, 0600);
        Check.is("entries with masks", x.act(clerk, book, Worlds.CHANGE), 1);
        Check.is("that are inherited", x.act(clerk, page, Worlds.LOOK), 0);
        Check.is("beside a mask of its own, so that labels are told", x.act(clerk, page, Worlds.CHANGE), 2);
        x.label(guard, page, 1, 3);
        Check.is("levels and categories", x.act(clerk, page, Worlds.LOOK), 2);
        x.type(page, 3);
        x.label(guard, page, 0, 0);
        x.rule(0, 3, 4);
        Check.is("domains and types by rules", x.act(clerk, page, Worlds.LOOK), 3);
        x.move(0, 3, 2);
        int shell = x.thing(Worlds.NONE, 0, 0, 01770);
        x.type(shell, 3);
        Check.is("how far one could come, by running the page itself", x.reach(clerk, page, Worlds.LOOK), 1);
        x.act(clerk, shell, Worlds.RUN);
        Check.is("runs that change users", x.about(clerk, 0), 0);
        Check.is("runs that change domains", x.about(clerk, 1), 2);
        x.filter(clerk, 3);
        Check.is("filters that are stacked", x.filter(clerk, 6), 2);
        Check.is("fine rights that are bounded", x.about(clerk, 4), 6);
        int key = x.token(guard, book, 7, 10);
        int spare = x.narrow(guard, key, 1, 5, clerk);
        Check.is("tokens that are narrowed and handed on", x.actBy(clerk, spare, Worlds.CHANGE), 5);
        x.forge(x.entries() - 1, 0);
        Check.is("a log in a chain", x.broken(), x.entries() - 1);
        Check.is("the least change that forbids something", x.least(2, book, Worlds.LOOK), 2);
    }

    private static void thereIsNone() {
        Check.is("NONE", AuditgateReeve.NONE, -1);
        AuditgateReeve x = Worlds.withOneThing(0);
        Check.is("no entry whose check is not right", x.broken(), AuditgateReeve.NONE);
        Check.is("no move", x.move(0, 0, AuditgateReeve.NONE), AuditgateReeve.NONE);
        Check.is("no entry", x.entry(Worlds.OWNER, 0, true, 0, AuditgateReeve.NONE, false), AuditgateReeve.NONE);
        Check.is("in no thing", x.thing(AuditgateReeve.NONE, 0, 0, 0), 1);
        Check.is("no row that is enough", Worlds.reach(x, Worlds.STRANGER, 0, 1), AuditgateReeve.NONE);
    }

    /** Each constant is the bit that the terms tell, wherever a right or a set of rights stands. */
    private static void rights() {
        int[] constants = {AuditgateReeve.LOOK, AuditgateReeve.CHANGE, AuditgateReeve.RUN};
        for (int i = 0; i < 3; i++) {
            Check.is("constant " + i, constants[i], 1 << i);
            AuditgateReeve x = Worlds.withOneThing(1 << i);
            for (int j = 0; j < 3; j++) {
                Check.is("bit " + i + " asked for " + constants[j], x.act(Worlds.STRANGER, 0, constants[j]),
                    i == j ? 0 : 1);
            }
        }
    }

    private static void standsAhead(String line) {
        int title = line.indexOf(RULER);
        Matcher names = Pattern.compile("`(\\w+)`").matcher(line.substring(0, Math.max(0, title)));
        List<String> due = new ArrayList<>();
        while (names.find()) {
            due.add(names.group(1));
        }
        String ruler = "    // " + line.substring(title, line.length() - 1) + "\n";
        String source = source();
        int from = source.indexOf(ruler);
        Check.is(ruler.strip() + " stands in the class", from >= 0, true);
        int next = source.indexOf("    // " + RULER, from + 1);
        Matcher calls = CALL.matcher(source.substring(Math.max(0, from), Math.max(next, from + 1)));
        List<String> got = new ArrayList<>();
        while (calls.find()) {
            got.add(calls.group(1));
        }
        Check.is("the calls behind it", got.toString(), due.toString());
    }

    private static String source() {
        try {
            return Files.readString(SOURCE, StandardCharsets.ISO_8859_1);
        } catch (IOException unread) {
            throw new UncheckedIOException(unread);
        }
    }
}
