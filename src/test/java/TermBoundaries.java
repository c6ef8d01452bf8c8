/** The sentences of "What it is" and "Terms": users, groups, things, domains and processes. */
final class TermBoundaries {
    private static final int NONE = Worlds.NONE;
    private static final int RUN = Worlds.RUN;
    private static final int LOOK = Worlds.LOOK;

    private TermBoundaries() {
    }

    static void all() {
        Sentences.under("What it is");
        Sentences.holds("An object is used for at most 512 calls after it has been made", TermBoundaries::last512th);
        Sentences.under("Terms");
        Sentences.holds("There are the users 0 to 5 and the groups 0 to 5;", TermBoundaries::usersAndGroups);
        Sentences.holds("a group has users and other groups as members, none by way of others itself.",
            TermBoundaries::noneIsItsOwn);
        Sentences.holds("A user is in a group, if it is a member of it, or is in one that is.",
            TermBoundaries::inOneThatIs);
        Sentences.holds("Things are numbered from 0, at most 12.", TermBoundaries::twelveThings);
        Sentences.holds("A thing has an owner, a group, a mode, a type, 0 to 3, a level, 0 to 3, categories, a set of "
            + "0 to 2, entries and a mask;", TermBoundaries::partsOfThings);
        Sentences.holds("it may be in an earlier thing.", TermBoundaries::inAnEarlierThing);
        Sentences.holds("Rights are sets: bit 0 to look, 1 to change, 2 to run.", TermBoundaries::bitsOfRights);
        Sentences.holds("A mode has rights of the owner, bits 6 to 8, of the group, 3 to 5, and of others, 0 to 2;",
            TermBoundaries::bitsOfModes);
        Sentences.holds("bit 9: who runs it becomes its owner.", TermBoundaries::bit9);
        Sentences.holds("Entries, at most 5 of a thing, are of a user or a group,", TermBoundaries::fiveEntries);
        Sentences.holds("of one each at most one, with rights;", TermBoundaries::oneEntryOfEach);
        Sentences.holds("an entry may be handed down: a thing that is made in this one later has it from its "
            + "beginning, also as one that is handed down;", TermBoundaries::handedDown);
        Sentences.holds("things that are there do not get it.", TermBoundaries::thoseThatAreThere);
        Sentences.holds("The mask is 7 at first.", TermBoundaries::maskAtFirst);
        Sentences.holds("There are the domains 0 to 3.", TermBoundaries::domains);
        Sentences.holds("A rule allows a domain some rights on a type; others it has not.", TermBoundaries::oneRule);
        Sentences.holds("A move tells to which domain a process of a domain goes, when it runs a thing of a type.",
            TermBoundaries::oneMove);
        Sentences.holds("Processes are numbered from 0, at most 8:", TermBoundaries::eightProcesses);
        Sentences.holds("a process has a user, a domain, a level, categories, fine rights, bounds, and filters, at "
            + "most 3.", TermBoundaries::threeFilters);
        Sentences.holds("Fine rights are sets: bit 0 to pass by modes and entries, 1 to change what is not one's own, "
            + "2 to change labels.", TermBoundaries::bitsOfFineRights);
        Sentences.holds("A filter has rights that it lets pass.", TermBoundaries::bitsOfFilters);
    }

    private static void last512th() {
        AuditgateReeve x = new AuditgateReeve();
        x.rule(0, 0, 7);
        x.thing(NONE, 1, 0, 0700);
        x.process(1, 0, 0, 0, 0, 0);
        for (int call = 4; call <= 508; call++) {
            Check.is("call " + call, x.act(0, 0, LOOK), 0);
        }
        Check.is("call 509, entries()", x.entries(), 20);
        Check.is("call 510, lost()", x.lost(), 485);
        Check.is("call 511, broken()", x.broken(), NONE);
        Check.is("call 512, reachAnew", x.reachAnew(0, 0, LOOK), 0);
    }

    private static void usersAndGroups() {
        for (int user = 0; user <= 5; user += 5) {
            for (int group = 0; group <= 5; group += 5) {
                AuditgateReeve x = new AuditgateReeve();
                Check.is("user " + user + " into group " + group, x.member(group, false, user, true), false);
                Check.is("groups(" + user + ")", x.groups(user), 1 << group);
                Check.is("groups(" + (5 - user) + ")", x.groups(5 - user), 0);
            }
        }
        AuditgateReeve x = new AuditgateReeve();
        Check.is("group 0 into group 5", x.member(5, true, 0, true), false);
        Edges.noSuchBeyond("the user", 0, 5, n -> x.groups(n));
        Edges.noSuchBeyond("the user as a member", 0, 5, n -> Edges.truth(x.member(0, false, n, true)));
        Edges.noSuchBeyond("the group as a member", 0, 5, n -> Edges.truth(x.member(0, true, n, true)));
        Edges.noSuchBeyond("the group", 0, 5, n -> Edges.truth(x.member(n, false, 0, true)));
    }

    /** All groups in a chain, the longest one that there can be: every member that would close it is refused. */
    private static void noneIsItsOwn() {
        AuditgateReeve x = new AuditgateReeve();
        for (int g = 0; g < 5; g++) {
            Check.is("group " + (g + 1) + " into " + g, x.member(g, true, g + 1, true), false);
        }
        for (int inner = 0; inner < 6; inner++) {
            for (int outer = inner; outer < 6; outer++) {
                int to = outer;
                int in = inner;
                Check.badState("group " + in + " into " + to, () -> Edges.truth(x.member(to, true, in, true)));
                Check.is("nor was it", x.member(to, true, in, false), false);
            }
        }
        for (int outer = 0; outer < 6; outer++) {
            for (int inner = outer + 1; inner < 6; inner++) {
                Check.is("group " + inner + " into " + outer, x.member(outer, true, inner, true), inner == outer + 1);
            }
        }
        x.member(5, false, 0, true);
        Check.is("in all groups", x.groups(0), 63);
        Check.is("a user is in no user", x.groups(5), 0);
    }

    private static void inOneThatIs() {
        AuditgateReeve x = new AuditgateReeve();
        x.member(2, false, 3, true);
        Check.is("a member", x.groups(3), 4);
        x.member(5, true, 2, true);
        Check.is("in one that is", x.groups(3), 36);
        x.member(0, true, 5, true);
        Check.is("in one that is in one", x.groups(3), 37);
        x.member(2, false, 3, false);
        Check.is("in none without the first", x.groups(3), 0);
    }

    private static void twelveThings() {
        AuditgateReeve x = new AuditgateReeve();
        Check.noSuchOne("thing 0 of none", () -> x.type(0, 0));
        for (int i = 0; i < 12; i++) {
            int next = i + 1;
            Check.is("thing " + i, x.thing(NONE, 0, 0, i), i);
            Check.noSuchOne("thing " + next + " of " + next, () -> x.type(next, 0));
        }
        Check.badState("one more", () -> x.thing(NONE, 0, 0, 0));
        Check.noSuchOne("thing 12", () -> x.type(12, 0));
        Check.is("thing 0", x.type(0, 1), 0);
        Check.is("thing 11", x.type(11, 3), 0);
        x.process(0, 0, 0, 0, 0, 0);
        Check.is("the mode of thing 11", x.mode(0, 11, 0), 11);
        Check.is("the mode of thing 0", x.mode(0, 0, 0), 0);
    }

    private static void partsOfThings() {
        AuditgateReeve x = Worlds.withOneThing(0777);
        for (int n = 0; n <= 3; n++) {
            Check.is("type to " + n, x.type(0, n), n == 0 ? 0 : n - 1);
            Check.is("level to " + n, x.label(Worlds.MASTER, 0, n, 0), n == 0 ? 0 : 10 * (n - 1));
        }
        Edges.refusedBeyond("type", 0, 3, n -> x.type(0, n));
        Edges.refusedBeyond("level", 0, 3, n -> x.label(Worlds.MASTER, 0, n, 0));
        Check.is("the type", x.type(0, 0), 3);
        int before = 30;
        for (int categories = 0; categories <= 7; categories++) {
            Check.is("categories to " + categories, x.label(Worlds.MASTER, 0, 0, categories), before);
            before = categories;
        }
        Edges.refusedBeyond("categories", 0, 7, n -> x.label(Worlds.MASTER, 0, 0, n));
        Check.is("the label", x.label(Worlds.MASTER, 0, 0, 0), 7);
    }

    private static void inAnEarlierThing() {
        AuditgateReeve x = new AuditgateReeve();
        Check.noSuchOne("the first one in itself", () -> x.thing(0, 0, 0, 0));
        Check.is("the first one", x.thing(NONE, 0, 0, 0), 0);
        Check.noSuchOne("the second one in itself", () -> x.thing(1, 0, 0, 0));
        Check.noSuchOne("the second one in a later one", () -> x.thing(2, 0, 0, 0));
        Check.is("in the first", x.thing(0, 0, 0, 0), 1);
        Check.is("in the one just ahead", x.thing(1, 0, 0, 0), 2);
        Check.is("in the first, which has one already", x.thing(0, 0, 0, 0), 3);
    }

    private static void bitsOfRights() {
        AuditgateReeve x = Worlds.withOneThing(0700);
        for (int set = 0; set <= 7; set++) {
            x.rule(0, 0, set);
            for (int bit = 0; bit < 3; bit++) {
                int due = set / (1 << bit) % 2 == 1 ? 0 : 3;
                Check.is("bit " + bit + " of " + set, Worlds.verdict(x, Worlds.OWNER, 0, 1 << bit), due);
            }
        }
    }

    private static void bitsOfModes() {
        AuditgateReeve x = Worlds.withOneThing(0);
        x.member(0, false, 2, true);
        int other = x.process(4, 0, 0, 0, 0, 0);
        // By the place of their bits: others, the group, the owner.
        int[] who = {other, Worlds.STRANGER, Worlds.OWNER};
        for (int bit = 0; bit <= 9; bit++) {
            x.mode(Worlds.MASTER, 0, 1 << bit);
            for (int place = 0; place < 3; place++) {
                for (int right = 0; right < 3; right++) {
                    Check.is("bit " + bit + " of a mode, asked for bit " + right + " at place " + place,
                        Worlds.verdict(x, who[place], 0, 1 << right), bit == 3 * place + right ? 0 : 1);
                }
            }
        }
    }

    private static void bit9() {
        for (int mode : new int[] {0444, 0777, 01444, 01777}) {
            AuditgateReeve x = Worlds.withOneThing(mode);
            Check.is("run", x.act(Worlds.STRANGER, 0, RUN), 0);
            Check.is("who ran mode " + mode, x.about(Worlds.STRANGER, 0), mode >= 512 ? 1 : 2);
        }
    }

    private static void fiveEntries() {
        AuditgateReeve x = Worlds.withOneThing(0);
        x.thing(NONE, 1, 0, 0);
        Check.is("none yet", Worlds.entryOf(x, 0, true, 0), NONE);
        for (int thing = 0; thing < 2; thing++) {
            int t = thing;
            for (int i = 1; i <= 5; i++) {
                Check.is("entry " + i + " of thing " + t, x.entry(Worlds.OWNER, t, i > 3, i, i, false), NONE);
            }
            Check.badState("one more, of a user", () -> x.entry(Worlds.OWNER, t, false, 0, 7, false));
            Check.badState("one more, of a group", () -> x.entry(Worlds.OWNER, t, true, 0, 7, true));
            Check.badState("one more, of no rights", () -> x.entry(Worlds.OWNER, t, true, 0, 0, false));
        }
        for (int i = 1; i <= 5; i++) {
            Check.is("entry " + i + " is there", Worlds.entryOf(x, 0, i > 3, i), i);
        }
        Check.is("what was refused is not", Worlds.entryOf(x, 0, false, 0), NONE);
        Check.is("one that is put when all are gone", x.entry(Worlds.OWNER, 0, false, 0, 7, false), NONE);
    }

    private static void oneEntryOfEach() {
        AuditgateReeve x = Worlds.withOneThing(0);
        for (int rights = 0; rights <= 7; rights++) {
            int before = rights == 0 ? NONE : rights - 1;
            Check.is("user 5's to " + rights, x.entry(Worlds.OWNER, 0, false, 5, rights, false), before);
            Check.is("group 5's to " + rights, x.entry(Worlds.OWNER, 0, true, 5, 7 - rights, true),
                rights == 0 ? NONE : 8 - rights);
        }
        for (int i = 0; i < 3; i++) {
            Check.is("there is room for three more", x.entry(Worlds.OWNER, 0, false, i, 1, false), NONE);
        }
        Check.badState("there is none for four", () -> x.entry(Worlds.OWNER, 0, false, 3, 1, false));
        Check.is("one of five is changed", x.entry(Worlds.OWNER, 0, false, 5, 0, false), 7);
        Check.is("one of five is taken away", Worlds.entryOf(x, 0, false, 5), 0);
        Check.is("then it is not there", Worlds.entryOf(x, 0, false, 5), NONE);
        Check.is("nor is another of that number touched", Worlds.entryOf(x, 0, true, 5), 0);
    }

    /** Things each in the one ahead, as many as there can be. */
    private static void handedDown() {
        AuditgateReeve x = Worlds.withOneThing(0);
        x.entry(Worlds.OWNER, 0, false, 0, 4, true);
        x.entry(Worlds.OWNER, 0, false, 5, 7, true);
        x.entry(Worlds.OWNER, 0, true, 3, 2, false);
        x.entry(Worlds.OWNER, 0, true, 0, 0, true);
        x.entry(Worlds.OWNER, 0, true, 5, 1, true);
        for (int i = 1; i < 12; i++) {
            x.thing(i - 1, 1, 0, 0);
        }
        int[] looked = {1, 11};
        for (int thing : looked) {
            Check.is("user 0's of rights 4", Worlds.entryOf(x, thing, false, 0), 4);
            Check.is("user 5's of all rights", Worlds.entryOf(x, thing, false, 5), 7);
            Check.is("group 0's of no rights", Worlds.entryOf(x, thing, true, 0), 0);
            Check.is("group 5's", Worlds.entryOf(x, thing, true, 5), 1);
            Check.is("what is not handed down", Worlds.entryOf(x, thing, true, 3), NONE);
        }
        AuditgateReeve y = Worlds.withOneThing(0);
        for (int who = 0; who < 5; who++) {
            y.entry(Worlds.OWNER, 0, false, who, who, true);
        }
        y.thing(0, 1, 0, 0);
        Check.badState("one more than five handed down", () -> y.entry(Worlds.OWNER, 1, false, 5, 7, false));
        Check.is("the fifth of them", Worlds.entryOf(y, 1, false, 4), 4);
    }

    private static void thoseThatAreThere() {
        AuditgateReeve x = Worlds.withOneThing(0);
        x.thing(0, 1, 0, 0);
        x.entry(Worlds.OWNER, 0, false, 5, 7, true);
        x.thing(0, 1, 0, 0);
        x.entry(Worlds.OWNER, 0, false, 5, 1, false);
        x.thing(0, 1, 0, 0);
        x.thing(2, 1, 0, 0);
        Check.is("in a thing from before the entry", Worlds.entryOf(x, 1, false, 5), NONE);
        Check.is("in a thing from after it", Worlds.entryOf(x, 2, false, 5), 7);
        Check.is("in a thing from after its change", Worlds.entryOf(x, 3, false, 5), NONE);
        Check.is("in a thing in the one that has it", Worlds.entryOf(x, 4, false, 5), 7);
        Check.is("in the first", Worlds.entryOf(x, 0, false, 5), 1);
    }

    private static void maskAtFirst() {
        AuditgateReeve x = Worlds.withOneThing(0);
        x.mask(Worlds.OWNER, 0, 0);
        x.thing(NONE, 1, 0, 0);
        x.thing(0, 1, 0, 0);
        Check.is("of a thing in none", x.mask(Worlds.OWNER, 1, 7), 7);
        Check.is("of a thing in one whose mask is 0", x.mask(Worlds.OWNER, 2, 7), 7);
        Check.is("of that one", x.mask(Worlds.OWNER, 0, 7), 0);
    }

    private static void domains() {
        AuditgateReeve x = new AuditgateReeve();
        for (int domain = 0; domain <= 3; domain++) {
            Check.is("rule of " + domain, x.rule(domain, 0, 7), 0);
            Check.is("move of " + domain, x.move(domain, 0, 3 - domain), NONE);
            Check.is("process of " + domain, x.about(x.process(0, domain, 0, 0, 0, 0), 1), domain);
        }
        Edges.noSuchBeyond("the domain of a rule", 0, 3, n -> x.rule(n, 0, 0));
        Edges.noSuchBeyond("the domain of a move", 0, 3, n -> x.move(n, 0, 0));
        Edges.noSuchBeyond("the domain of a process", 0, 3, n -> x.process(0, n, 0, 0, 0, 0));
        Edges.noSuchBeyond("where a move goes", -1, 3, n -> x.move(0, 0, n));
    }

    private static void oneRule() {
        AuditgateReeve x = new AuditgateReeve();
        for (int type = 0; type <= 3; type++) {
            x.type(x.thing(NONE, 1, 0, 0777), type);
            x.process(1, type, 0, 0, 0, 0);
        }
        everyRule("no rule", x, NONE, 0);
        for (int cell = 0; cell < 16; cell += 5) {
            x.rule(cell / 4, cell % 4, 5);
            everyRule("one of cell " + cell, x, cell, 5);
            x.rule(cell / 4, cell % 4, 0);
        }
    }

    private static void everyRule(String when, AuditgateReeve x, int cell, int rights) {
        for (int i = 0; i < 16; i++) {
            for (int right : Worlds.RIGHTS) {
                int due = i == cell && (rights & right) != 0 ? 0 : 3;
                Check.is(when + ", asked of " + i + " for " + right, x.verdict(i / 4, i % 4, right), due);
            }
        }
    }

    private static void oneMove() {
        for (int cell = 0; cell < 16; cell++) {
            AuditgateReeve x = Worlds.withRules();
            for (int n = 0; n <= 3; n++) {
                x.type(x.thing(NONE, 1, 0, 0777), n);
                x.process(1, n, 0, 0, 0, 0);
            }
            x.move(cell / 4, cell % 4, 3 - cell / 4);
            for (int i = 0; i < 16; i++) {
                if (i != cell) {
                    Check.is("run without a move", x.act(i / 4, i % 4, RUN), 0);
                    Check.is("the domain stays", x.about(i / 4, 1), i / 4);
                }
            }
            Check.is("to look", x.act(cell / 4, cell % 4, LOOK), 0);
            Check.is("the domain stays, as it is not run", x.about(cell / 4, 1), cell / 4);
            Check.is("run with a move", x.act(cell / 4, cell % 4, RUN), 0);
            Check.is("the domain of " + cell / 4, x.about(cell / 4, 1), 3 - cell / 4);
        }
    }

    private static void eightProcesses() {
        AuditgateReeve x = new AuditgateReeve();
        Check.noSuchOne("process 0 of none", () -> x.about(0, 0));
        for (int i = 0; i < 8; i++) {
            int next = i + 1;
            Check.is("process " + i, x.process(i % 6, 0, 0, 0, 0, 0), i);
            Check.noSuchOne("process " + next + " of " + next, () -> x.about(next, 0));
        }
        Check.badState("one more", () -> x.process(0, 0, 0, 0, 0, 0));
        Check.noSuchOne("process 8", () -> x.about(8, 0));
        Check.is("process 0", x.about(0, 0), 0);
        Check.is("process 7", x.about(7, 0), 1);
    }

    private static void threeFilters() {
        AuditgateReeve x = new AuditgateReeve();
        x.process(5, 3, 3, 7, 7, 7);
        x.process(0, 0, 0, 0, 0, 0);
        for (int process = 0; process < 2; process++) {
            int p = process;
            Check.is("none", x.about(p, 6), 7);
            for (int i = 0; i < 3; i++) {
                Check.is("filter " + i, x.filter(p, 7), 7);
            }
            Check.badState("one more", () -> x.filter(p, 7));
            Check.badState("one more that lets nothing pass", () -> x.filter(p, 0));
            Check.is("what they let pass", x.about(p, 6), 7);
        }
    }

    private static void bitsOfFineRights() {
        for (int fine = 0; fine <= 7; fine++) {
            AuditgateReeve x = Worlds.withOneThing(0);
            int process = x.process(4, 0, 0, 0, fine, 7);
            Check.is("to pass by, with " + fine, Worlds.verdict(x, process, 0, LOOK), fine % 2 == 1 ? 0 : 1);
            Check.is("to change what is not its own, with " + fine, Check.answerOf(() -> x.mode(process, 0, 0)),
                fine / 2 % 2 == 1 ? "0" : "throws.UnsupportedOperationException");
            Check.is("to change labels, with " + fine, Check.answerOf(() -> x.label(process, 0, 0, 0)),
                fine / 4 == 1 ? "0" : "throws.UnsupportedOperationException");
        }
    }

    private static void bitsOfFilters() {
        for (int rights = 0; rights <= 7; rights++) {
            AuditgateReeve x = Worlds.withOneThing(0777);
            Check.is("a filter of " + rights, x.filter(Worlds.OWNER, rights), rights);
            for (int right : Worlds.RIGHTS) {
                Check.is("lets " + right + " pass", Worlds.verdict(x, Worlds.OWNER, 0, right),
                    (rights & right) != 0 ? 0 : 4);
                Check.is("of another process", Worlds.verdict(x, Worlds.STRANGER, 0, right), 0);
            }
        }
    }
}
