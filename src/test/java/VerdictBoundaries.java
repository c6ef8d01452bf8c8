/** The sentences of "Verdicts", with those of running and changing. */
final class VerdictBoundaries {
    private static final int NONE = Worlds.NONE;
    private static final int LOOK = Worlds.LOOK;
    private static final int CHANGE = Worlds.CHANGE;
    private static final int RUN = Worlds.RUN;
    private static final int OWNER = Worlds.OWNER;
    private static final int STRANGER = Worlds.STRANGER;
    private static final int MASTER = Worlds.MASTER;

    private VerdictBoundaries() {
    }

    static void all() {
        Sentences.under("Verdicts");
        Sentences.holds("A right (one of the three) of a process on a thing is asked of these, and the first one that "
            + "does not allow it is told; 0 if all do:", VerdictBoundaries::theFirstIsTold);
        Sentences.holds("1 modes and entries. If it may pass by them, that is fine (to run a thing, some right to run "
            + "it has to be in its mode, or an entry).", VerdictBoundaries::passingBy);
        Sentences.holds("Otherwise for the owner the owner's rights of the mode count;", VerdictBoundaries::owners);
        Sentences.holds("for a user who has an entry that, by the mask;", VerdictBoundaries::usersWithEntries);
        Sentences.holds("for one who is in the group, or in groups with entries, at least one of these has to have it, "
            + "entries by the mask,", VerdictBoundaries::atLeastOneOfGroups);
        Sentences.holds("and the group's rights of the mode likewise, if the thing has any entries, otherwise as they "
            + "are;", VerdictBoundaries::ifThereAreEntries);
        Sentences.holds("for all else those of others.", VerdictBoundaries::others);
        Sentences.holds("2 labels: to look, or run, the level of the process is at least that of the thing, and it "
            + "has all categories of that; to change, the other way round.", VerdictBoundaries::labels);
        Sentences.holds("3 rules.", VerdictBoundaries::rules);
        Sentences.holds("4 filters: all let it pass.", VerdictBoundaries::filters);
        Sentences.holds("A process that runs a thing goes to another domain, if there is a move,",
            VerdictBoundaries::runWithMoves);
        Sentences.holds("and becomes the owner's, if bit 9 is in the mode: its fine rights are then all that its "
            + "bounds are, if the owner is the user 0, and otherwise none.", VerdictBoundaries::becomingTheOwner);
        Sentences.holds("Filters, level and categories stay.", VerdictBoundaries::whatStays);
        Sentences.holds("The mode, mask, entries and owner of a thing can be changed by a process whose user is the "
            + "owner, or that may change what is not its own;", VerdictBoundaries::whoMayChange);
        Sentences.holds("an owner other than before only by the latter;", VerdictBoundaries::anotherOwner);
        Sentences.holds("labels only by one that may change labels, with the level and categories at most its own.",
            VerdictBoundaries::labelsAtMostItsOwn);
    }

    /** Each of the four allows it or does not, in all ways. */
    private static void theFirstIsTold() {
        for (int denied = 0; denied < 16; denied++) {
            AuditgateReeve x = Worlds.withOneThing(denied % 2 == 1 ? 0 : 0777);
            int process = x.process(4, 3, 1, 1, 0, 0);
            x.label(MASTER, 0, 1, denied / 2 % 2 == 1 ? 2 : 1);
            x.rule(3, 0, denied / 4 % 2 == 1 ? 0 : 7);
            x.filter(process, denied / 8 == 1 ? 0 : 7);
            int first = denied == 0 ? 0 : Integer.numberOfTrailingZeros(denied) + 1;
            for (int right : Worlds.RIGHTS) {
                Check.is("denied by " + denied + " for " + right, Worlds.verdict(x, process, 0, right), first);
                Check.is("act", x.act(process, 0, right), first);
            }
        }
    }

    private static void passingBy() {
        AuditgateReeve x = Worlds.withOneThing(0);
        int passer = x.process(5, 0, 0, 0, 1, 1);
        for (int bit = 0; bit <= 9; bit++) {
            x.mode(OWNER, 0, 1 << bit);
            boolean isToRun = bit == 2 || bit == 5 || bit == 8;
            Check.is("to run by bit " + bit, Worlds.verdict(x, passer, 0, RUN), isToRun ? 0 : 1);
            Check.is("to look by bit " + bit, Worlds.verdict(x, passer, 0, LOOK), 0);
            Check.is("to change by bit " + bit, Worlds.verdict(x, passer, 0, CHANGE), 0);
        }
        x.mode(OWNER, 0, 0);
        x.mask(OWNER, 0, 0);
        for (int subject = 0; subject < 12; subject += subject == 5 ? 1 : 5) {
            boolean isGroup = subject > 5;
            x.entry(OWNER, 0, isGroup, subject % 6, 3, false);
            Check.is("by another entry of " + subject, Worlds.verdict(x, passer, 0, RUN), 1);
            x.entry(OWNER, 0, isGroup, subject % 6, 4, false);
            Check.is("by an entry of " + subject, Worlds.verdict(x, passer, 0, RUN), 0);
            Check.is("of one that may not pass", Worlds.verdict(x, STRANGER, 0, RUN), 1);
            x.entry(OWNER, 0, isGroup, subject % 6, NONE, false);
            Check.is("without the entry", Worlds.verdict(x, passer, 0, RUN), 1);
        }
    }

    private static void owners() {
        AuditgateReeve x = Worlds.withOneThing(0077);
        x.member(0, false, 1, true);
        x.entry(OWNER, 0, false, 1, 7, false);
        x.entry(OWNER, 0, true, 0, 7, false);
        for (int right : Worlds.RIGHTS) {
            Check.is("none of its own for " + right, Worlds.verdict(x, OWNER, 0, right), 1);
        }
        x.mode(OWNER, 0, 0700);
        x.mask(OWNER, 0, 0);
        x.entry(OWNER, 0, false, 1, 0, false);
        for (int right : Worlds.RIGHTS) {
            Check.is("all of its own, by no mask, for " + right, Worlds.verdict(x, OWNER, 0, right), 0);
        }
    }

    private static void usersWithEntries() {
        AuditgateReeve x = Worlds.withOneThing(0777);
        x.member(0, false, 2, true);
        x.entry(OWNER, 0, true, 0, 7, false);
        for (int rights = 0; rights <= 7; rights++) {
            x.entry(OWNER, 0, false, 2, rights, false);
            for (int mask = 0; mask <= 7; mask += rights == 7 ? 1 : 7) {
                x.mask(OWNER, 0, mask);
                for (int right : Worlds.RIGHTS) {
                    Check.is("an entry of " + rights + " by the mask " + mask + " for " + right,
                        x.verdict(STRANGER, 0, right), (rights & mask & right) != 0 ? 0 : 1);
                }
            }
        }
        Check.is("anew", Worlds.verdict(x, STRANGER, 0, RUN), 0);
        x.mask(OWNER, 0, 3);
        Check.is("anew, by the mask", Worlds.verdict(x, STRANGER, 0, RUN), 1);
    }

    private static void atLeastOneOfGroups() {
        AuditgateReeve x = Worlds.withOneThing(0007);
        for (int group = 1; group <= 5; group++) {
            x.entry(OWNER, 0, true, group, 0, false);
        }
        Check.is("in none of the groups, others' rights", Worlds.verdict(x, STRANGER, 0, LOOK), 0);
        x.member(0, false, 2, true);
        Check.is("in the group alone, which has no rights", Worlds.verdict(x, STRANGER, 0, LOOK), 1);
        x.member(0, false, 2, false);
        x.member(1, false, 2, true);
        Check.is("in a group alone whose entry has no rights", Worlds.verdict(x, STRANGER, 0, LOOK), 1);
        for (int group = 0; group <= 5; group++) {
            x.member(group, false, 2, true);
        }
        Check.is("in all, of which none has it", Worlds.verdict(x, STRANGER, 0, LOOK), 1);
        x.entry(OWNER, 0, true, 5, LOOK, false);
        Check.is("in all, of which the last has it", Worlds.verdict(x, STRANGER, 0, LOOK), 0);
        x.mask(OWNER, 0, 6);
        Check.is("it has it not by the mask", Worlds.verdict(x, STRANGER, 0, LOOK), 1);
        x.mask(OWNER, 0, LOOK);
        Check.is("it has it by the mask", Worlds.verdict(x, STRANGER, 0, LOOK), 0);
        x.entry(OWNER, 0, true, 5, 6, false);
        Check.is("it has others", Worlds.verdict(x, STRANGER, 0, LOOK), 1);
        x.mode(OWNER, 0, 0010);
        Check.is("the group has it", Worlds.verdict(x, STRANGER, 0, LOOK), 0);
    }

    private static void ifThereAreEntries() {
        AuditgateReeve x = Worlds.withOneThing(0070);
        x.member(0, false, 2, true);
        x.mask(OWNER, 0, 0);
        Check.is("as they are, as there was never an entry", Worlds.verdict(x, STRANGER, 0, RUN), 0);
        for (int subject = 0; subject < 12; subject++) {
            if (subject != 2) {
                x.entry(OWNER, 0, subject > 5, subject % 6, 0, false);
                Check.is("by the mask, with an entry of " + subject, Worlds.verdict(x, STRANGER, 0, RUN), 1);
                x.entry(OWNER, 0, subject > 5, subject % 6, NONE, false);
                Check.is("as they are, as it is gone", Worlds.verdict(x, STRANGER, 0, RUN), 0);
            }
        }
        x.entry(OWNER, 0, true, 5, 7, true);
        x.mask(OWNER, 0, RUN);
        Check.is("the mask lets it", Worlds.verdict(x, STRANGER, 0, RUN), 0);
        Check.is("the mask does not let another", Worlds.verdict(x, STRANGER, 0, LOOK), 1);
        int inner = x.thing(0, 1, 0, 0070);
        x.mask(OWNER, inner, 0);
        Check.is("an entry handed down is one", Worlds.verdict(x, STRANGER, inner, RUN), 1);
    }

    private static void others() {
        AuditgateReeve x = Worlds.withOneThing(0007);
        x.mask(OWNER, 0, 0);
        x.entry(OWNER, 0, false, 3, 0, false);
        x.entry(OWNER, 0, true, 2, 0, false);
        for (int right : Worlds.RIGHTS) {
            Check.is("all, by no mask, for " + right, Worlds.verdict(x, STRANGER, 0, right), 0);
        }
        x.mode(OWNER, 0, 0770);
        for (int right : Worlds.RIGHTS) {
            Check.is("none for " + right, Worlds.verdict(x, STRANGER, 0, right), 1);
        }
        x.member(2, false, 3, true);
        Check.is("who is not the one with the entry", Worlds.verdict(x, STRANGER, 0, LOOK), 1);
    }

    /** Every label of a process against every one of a thing. */
    private static void labels() {
        for (int own = 0; own < 32; own++) {
            AuditgateReeve x = Worlds.withOneThing(0777);
            int process = x.process(4, 0, own / 8, own % 8, 0, 0);
            for (int its = 0; its < 32; its++) {
                x.label(MASTER, 0, its / 8, its % 8);
                boolean isAbove = own / 8 >= its / 8 && (own % 8 | its % 8) == own % 8;
                boolean isBelow = its / 8 >= own / 8 && (own % 8 | its % 8) == its % 8;
                String when = "the label " + own + " against " + its;
                Check.is(when + " to look", x.verdict(process, 0, LOOK), isAbove ? 0 : 2);
                Check.is(when + " to change", x.verdictAnew(process, 0, CHANGE), isBelow ? 0 : 2);
                Check.is(when + " to run", x.verdict(process, 0, RUN), isAbove ? 0 : 2);
            }
        }
    }

    private static void rules() {
        for (int cell = 0; cell < 16; cell++) {
            AuditgateReeve x = Worlds.withOneThing(0777);
            int process = x.process(4, cell / 4, 0, 0, 0, 0);
            x.type(0, cell % 4);
            for (int right : Worlds.RIGHTS) {
                x.rule(cell / 4, cell % 4, 7 - right);
                for (int asked : Worlds.RIGHTS) {
                    Check.is("without " + right + " for " + asked, Worlds.verdict(x, process, 0, asked),
                        asked == right ? 3 : 0);
                }
            }
        }
    }

    private static void filters() {
        for (int last = 0; last < 3; last++) {
            AuditgateReeve x = Worlds.withOneThing(0777);
            Check.is("without a filter", Worlds.verdict(x, OWNER, 0, LOOK), 0);
            for (int i = 0; i < 3; i++) {
                x.filter(OWNER, i == last ? 6 : 7);
                Check.is("after filter " + i + " to look", Worlds.verdict(x, OWNER, 0, LOOK), i < last ? 0 : 4);
                Check.is("after filter " + i + " to run", Worlds.verdict(x, OWNER, 0, RUN), 0);
            }
        }
    }

    private static void runWithMoves() {
        for (int from = 0; from <= 3; from++) {
            for (int to = -1; to <= 3; to++) {
                AuditgateReeve x = Worlds.withOneThing(0777);
                int process = x.process(4, from, 0, 0, 0, 0);
                x.move(from, 0, to);
                Check.is("run", x.act(process, 0, RUN), 0);
                Check.is("from " + from + " by a move to " + to, x.about(process, 1), to == NONE ? from : to);
                Check.is("the user stays", x.about(process, 0), 4);
            }
        }
    }

    private static void becomingTheOwner() {
        for (int owner = 0; owner <= 5; owner++) {
            for (int bounds = 0; bounds <= 7; bounds++) {
                AuditgateReeve x = Worlds.withRules();
                x.thing(NONE, owner, 0, 01777);
                int process = x.process(3, 0, 0, 0, bounds & 5, bounds);
                Check.is("run", x.act(process, 0, RUN), 0);
                String when = "of owner " + owner + " with the bounds " + bounds;
                Check.is("the user " + when, x.about(process, 0), owner);
                Check.is("the fine rights " + when, x.about(process, 4), owner == 0 ? bounds : 0);
                Check.is("the bounds " + when, x.about(process, 5), bounds);
            }
        }
        AuditgateReeve x = Worlds.withOneThing(0777);
        x.act(MASTER, 0, RUN);
        Check.is("without bit 9 the fine rights stay", x.about(MASTER, 4), 7);
        Check.is("and the user", x.about(MASTER, 0), 3);
    }

    private static void whatStays() {
        for (int end = 0; end < 2; end++) {
            AuditgateReeve x = Worlds.withOneThing(01777);
            int process = x.process(4, 0, 3 * end, 7 * end, 0, 7);
            x.label(MASTER, 0, 2 * end, 0);
            x.move(0, 0, 3);
            x.filter(process, 4);
            Check.is("run", x.act(process, 0, RUN), 0);
            int[] due = {1, 3, 3 * end, 7 * end, 0, 7, 4};
            for (int what = 0; what < due.length; what++) {
                Check.is("about(process, " + what + ")", x.about(process, what), due[what]);
            }
            x.filter(process, 7);
            x.filter(process, 7);
            Check.badState("the filter that it had is still one of three", () -> x.filter(process, 7));
        }
    }

    private static void whoMayChange() {
        AuditgateReeve x = Worlds.withOneThing(0777);
        int changer = x.process(5, 0, 0, 0, 2, 2);
        int others = x.process(5, 0, 3, 7, 5, 7);
        for (int process : new int[] {OWNER, changer, MASTER}) {
            Check.is("the mode by " + process, x.mode(process, 0, 0777), 0777);
            Check.is("the mask by " + process, x.mask(process, 0, 7), 7);
            Check.is("an entry by " + process, x.entry(process, 0, false, 4, 1, false), NONE);
            Check.is("an entry away by " + process, x.entry(process, 0, false, 4, NONE, false), 1);
            Check.is("the owner by " + process, x.give(process, 0, 1), 1);
        }
        for (int process : new int[] {STRANGER, others}) {
            Check.mayNot("the mode by " + process, () -> x.mode(process, 0, 0));
            Check.mayNot("the mask by " + process, () -> x.mask(process, 0, 0));
            Check.mayNot("an entry by " + process, () -> x.entry(process, 0, false, 4, 1, false));
            Check.mayNot("none away by " + process, () -> x.entry(process, 0, false, 4, NONE, false));
            Check.mayNot("the owner by " + process, () -> x.give(process, 0, 1));
        }
        x.mode(OWNER, 0, 0);
        x.filter(OWNER, 0);
        x.rule(0, 0, 0);
        Check.is("neither modes, rules nor filters are asked", x.mode(OWNER, 0, 0777), 0);
        Check.is("nothing else was changed", Worlds.entryOf(x, 0, false, 4), NONE);
    }

    private static void anotherOwner() {
        AuditgateReeve x = Worlds.withOneThing(0777);
        for (int owner = 0; owner <= 5; owner++) {
            int to = owner;
            Check.is("by the owner to " + to, Check.answerOf(() -> x.give(OWNER, 0, to)),
                to == 1 ? "1" : "throws.UnsupportedOperationException");
            Check.mayNot("by a stranger to " + to, () -> x.give(STRANGER, 0, to));
        }
        int before = 1;
        for (int owner = 0; owner <= 5; owner++) {
            Check.is("by one that may change others', to " + owner, x.give(MASTER, 0, owner), before);
            before = owner;
        }
        Check.mayNot("by the one that was the owner", () -> x.give(OWNER, 0, 5));
    }

    private static void labelsAtMostItsOwn() {
        for (int own = 0; own < 32; own++) {
            AuditgateReeve x = Worlds.withOneThing(0777);
            int labeller = x.process(4, 0, own / 8, own % 8, 4, 4);
            for (int its = 0; its < 32; its++) {
                int level = its / 8;
                int categories = its % 8;
                boolean isAtMost = level <= own / 8 && (categories | own % 8) == own % 8;
                Check.is("the label " + its + " by one of " + own,
                    Check.answerOf(() -> x.label(labeller, 0, level, categories)).startsWith("throws"), !isAtMost);
                Check.mayNot("by the owner", () -> x.label(OWNER, 0, level, categories));
            }
            Check.is("the last that was at most its own", x.label(MASTER, 0, 0, 0), own / 8 * 10 + own % 8);
        }
        AuditgateReeve x = Worlds.withOneThing(0777);
        int others = x.process(1, 0, 3, 7, 3, 7);
        Check.mayNot("by one with the other fine rights", () -> x.label(others, 0, 0, 0));
    }
}
