import java.lang.reflect.Field;

/** The sentences of "The log". */
final class LogBoundaries {
    private static final int NONE = Worlds.NONE;
    private static final int LOOK = Worlds.LOOK;
    private static final int RUN = Worlds.RUN;
    private static final int OWNER = Worlds.OWNER;
    private static final int STRANGER = Worlds.STRANGER;

    private LogBoundaries() {
    }

    static void all() {
        Sentences.under("The log");
        Sentences.holds("Moments go by; now is 0 at first.", LogBoundaries::nowAtFirst);
        Sentences.holds("What is logged is told by two sets of rights: for acts that are allowed, and for those that "
            + "are not; all at first.", LogBoundaries::allAtFirst);
        Sentences.holds("An act is logged with the moment, the process, the thing, the right (1, 2 or 4) and the "
            + "verdict;", LogBoundaries::leastAndMostLogged);
        Sentences.holds("the log has at most 20 entries;", LogBoundaries::twentyEntries);
        Sentences.holds("when one more comes, the first one goes, and is lost.", LogBoundaries::theFirstGoes);
        Sentences.holds("Each entry has a check, an int: at first 31 times that of the entry ahead (17 for the first "
            + "one ever); then, for each of the five, it becomes 31 times itself and the number, together; with "
            + "overflow.", LogBoundaries::checks);
        Sentences.holds("Whether the chain is right is found from the check of the entry that was lost last, or 17.",
            LogBoundaries::fromTheLostOne);
    }

    private static void nowAtFirst() {
        AuditgateReeve x = Worlds.withOneThing(0700);
        Check.outOfRange("a token until a moment ahead of it", () -> x.token(OWNER, 0, 7, -1));
        Check.is("a token until now", x.token(OWNER, 0, 7, 0), 0);
        x.act(OWNER, 0, LOOK);
        Check.is("the moment of an act", x.logged(0, 0), 0);
        Check.is("one moment later", x.pass(1), 1);
    }

    private static void allAtFirst() {
        for (int allowed = -1; allowed <= 7; allowed++) {
            for (int refused = allowed < 0 ? 7 : 0; refused <= 7; refused++) {
                AuditgateReeve x = Worlds.withOneThing(0700);
                if (allowed >= 0) {
                    x.watch(allowed, refused);
                }
                int due = 0;
                for (int right : Worlds.RIGHTS) {
                    Check.is("by the owner", x.act(OWNER, 0, right), 0);
                    due += allowed < 0 || (allowed & right) != 0 ? 1 : 0;
                    Check.is("allowed, by " + allowed + " for " + right, x.entries(), due);
                    Check.is("by a stranger", x.act(STRANGER, 0, right), 1);
                    due += (refused & right) != 0 ? 1 : 0;
                    Check.is("refused, by " + refused + " for " + right, x.entries(), due);
                }
            }
        }
    }

    /** The first and the last of all processes, things, rights, moments and verdicts. */
    private static void leastAndMostLogged() {
        AuditgateReeve x = withAll();
        x.act(0, 0, LOOK);
        for (int i = 0; i < 10; i++) {
            x.pass(1000);
        }
        x.act(7, 11, RUN);
        x.token(0, 11, LOOK, 10000);
        x.narrow(0, 0, LOOK, 10000, 7);
        x.actBy(7, 1, RUN);
        int[][] due = {{0, 0, 0, LOOK, 0}, {10000, 7, 11, RUN, 1}, {10000, 7, 11, RUN, 5}};
        Check.is("entries()", x.entries(), due.length);
        for (int i = 0; i < due.length; i++) {
            for (int what = 0; what < 5; what++) {
                Check.is("logged(" + i + ", " + what + ")", x.logged(i, what), due[i][what]);
            }
        }
    }

    /** As many things and processes as there can be; process 0 may do all on thing 0, process 7 nothing on thing 11. */
    private static AuditgateReeve withAll() {
        AuditgateReeve x = new AuditgateReeve();
        x.rule(0, 0, 7);
        for (int i = 0; i < 12; i++) {
            x.thing(NONE, 1, 0, 0700);
        }
        for (int i = 0; i < 8; i++) {
            x.process(i == 0 ? 1 : 2, 0, 0, 0, 0, 0);
        }
        return x;
    }

    private static void twentyEntries() {
        AuditgateReeve x = Worlds.withOneThing(0700);
        Check.is("at first", x.entries(), 0);
        for (int acts = 1; acts <= 65; acts++) {
            x.act(acts % 2, 0, LOOK);
            int count = Math.min(20, acts);
            Check.is("after " + acts, x.entries(), count);
            Check.is("the last of " + count, x.logged(count - 1, 1), acts % 2);
            Check.noSuchOne("one more than " + count, () -> x.logged(count, 0));
            Check.noSuchOne("forged, one more than " + count, () -> x.forge(count, 0));
        }
    }

    /** The moments tell the entries apart; more come than three times as many as there can be. */
    private static void theFirstGoes() {
        AuditgateReeve x = Worlds.withOneThing(0700);
        Check.is("lost at first", x.lost(), 0);
        for (int moment = 0; moment <= 65; moment++) {
            x.act(OWNER, 0, LOOK);
            int first = Math.max(0, moment - 19);
            Check.is("lost at " + moment, x.lost(), first);
            Check.is("the first at " + moment, x.logged(0, 0), first);
            Check.is("the last at " + moment, x.logged(moment - first, 0), moment);
            x.pass(1);
        }
        for (int i = 0; i < 20; i++) {
            Check.is("entry " + i, x.logged(i, 0), 46 + i);
        }
        x.watch(0, 0);
        x.act(OWNER, 0, LOOK);
        Check.is("what is not logged loses none", x.lost(), 46);
        Check.is("nor does the first go", x.logged(0, 0), 46);
    }

    /** No call tells a check, so that the numbers themselves are looked for inside. */
    private static void checks() {
        AuditgateReeve x = withAll();
        int due = 17;
        for (int i = 0; i < 50; i++) {
            int moment = i == 0 ? 0 : x.pass(i % 5 == 0 ? 1000 : i);
            int process = i % 3 == 0 ? 0 : 7;
            int thing = process == 0 ? 0 : 11;
            int verdict = x.act(process, thing, 1 << i % 3);
            int[] five = {moment, process, thing, 1 << i % 3, verdict};
            due = 31 * due;
            for (int number : five) {
                due = 31 * due + number;
            }
            Check.is("the chain of " + (i + 1), x.broken(), NONE);
            Check.is("the check of " + (i + 1), checkOf(x, x.entries() - 1), due);
            if (i == 0) {
                Check.is("it overflows from the first one on", due, -2092306576);
            }
        }
        Check.badState("the last one was at 10000", () -> x.pass(1));
    }

    private static int checkOf(AuditgateReeve x, int entry) {
        try {
            Field field = AuditgateReeve.class.getDeclaredField("log");
            field.setAccessible(true);
            Object log = field.get(x);
            Field cells = log.getClass().getDeclaredField("cells");
            Field first = log.getClass().getDeclaredField("first");
            cells.setAccessible(true);
            first.setAccessible(true);
            return ((int[]) cells.get(log))[(first.getInt(log) + entry) % 20 * 6 + 5];
        } catch (ReflectiveOperationException changed) {
            Check.report("the rows of the log are no more as this test knows them: " + changed);
            return 0;
        }
    }

    private static void fromTheLostOne() {
        for (int lost = 0; lost <= 45; lost += 5) {
            for (int place = 0; place < 20; place++) {
                AuditgateReeve x = withLost(lost);
                Check.is("lost", x.lost(), lost);
                Check.is("all are right", x.broken(), NONE);
                int before = x.forge(place, 5);
                Check.is("forged at " + place + " with " + lost + " lost", x.broken(), place);
                x.forge(place, before);
                Check.is("forged back", x.broken(), NONE);
            }
        }
        AuditgateReeve x = withLost(0);
        x.forge(0, 5);
        Check.is("the first one ever, forged", x.broken(), 0);
        x.act(OWNER, 0, LOOK);
        Check.is("lost, its check is still the one of before", x.broken(), NONE);
        x.act(OWNER, 0, LOOK);
        Check.is("the next one lost", x.broken(), NONE);
        x.forge(0, 5);
        x.forge(19, 5);
        Check.is("the first one, forged", x.broken(), 0);
        x.act(OWNER, 0, LOOK);
        Check.is("the last one, forged, and one more came", x.broken(), 18);
    }

    private static AuditgateReeve withLost(int lost) {
        AuditgateReeve x = Worlds.withOneThing(0700);
        for (int i = 0; i < 20 + lost; i++) {
            x.act(i % 2, 0, LOOK);
            if (i % 3 == 0) {
                x.pass(i + 1);
            }
        }
        return x;
    }
}
