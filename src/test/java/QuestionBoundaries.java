/** The sentences of the promises 29 to 34 that name a boundary; RefusedCalls has those that begin with "Throws". */
final class QuestionBoundaries {
    private static final int NONE = Worlds.NONE;
    private static final int LOOK = Worlds.LOOK;
    private static final int RUN = Worlds.RUN;
    private static final int OWNER = Worlds.OWNER;
    private static final int STRANGER = Worlds.STRANGER;

    /** One of the two tellings of a question. */
    interface Question {
        int ask(AuditgateReeve x, int who, int thing, int right);
    }

    private QuestionBoundaries() {
    }

    static void all() {
        Sentences.under("Promise 29: verdict");
        Sentences.holds("- `right`: LOOK, CHANGE or RUN", () -> rightsOfVerdicts(AuditgateReeve::verdict));
        Sentences.under("Promise 30: verdictAnew");
        Sentences.holds("- `right`: LOOK, CHANGE or RUN", () -> rightsOfVerdicts(AuditgateReeve::verdictAnew));
        Sentences.holds("Returns the same, found by going through all that was told, member by member and entry by "
            + "entry.", QuestionBoundaries::memberByMember);
        Sentences.under("Promise 31: reach");
        Sentences.holds("Returns how many things a process has to run at least, as all is, until it has a right on a "
            + "thing.", () -> asAllIs(AuditgateReeve::reach));
        reaches(AuditgateReeve::reach);
        Sentences.under("Promise 32: reachAnew");
        Sentences.holds("Returns the same, all rows of things being tried.",
            () -> asAllIs(AuditgateReeve::reachAnew));
        reaches(AuditgateReeve::reachAnew);
        Sentences.under("Promise 33: least");
        Sentences.holds("so that modes and entries do not allow a right to a user without fine rights.",
            () -> firstAndLastOnes(AuditgateReeve::least));
        leasts(AuditgateReeve::least);
        Sentences.under("Promise 34: leastAnew");
        Sentences.holds("Returns the same, all sets of rights that could go being tried.",
            () -> firstAndLastOnes(AuditgateReeve::leastAnew));
        leasts(AuditgateReeve::leastAnew);
    }

    private static void reaches(Question question) {
        Sentences.holds("- `right`: LOOK, CHANGE or RUN", () -> rightsOfReach(question));
        Sentences.holds("Returns how many, at most 3; NONE if that is not enough.", () -> atMostThree(question));
    }

    private static void leasts(Question question) {
        Sentences.holds("- `right`: LOOK, CHANGE or RUN", () -> rightsOfLeast(question));
        Sentences.holds("Returns how many; 0 if it is not allowed.", () -> noneToSix(question));
    }

    private static void rightsOfVerdicts(Question question) {
        for (int set = 0; set <= 7; set++) {
            AuditgateReeve x = Worlds.withOneThing(set);
            for (int right : Worlds.RIGHTS) {
                Check.is("of " + set + " for " + right, question.ask(x, STRANGER, 0, right),
                    (set & right) != 0 ? 0 : 1);
            }
            Check.is("no question is logged", x.entries(), 0);
            for (int right : new int[] {0, 3, 5, 6, 7, 8, NONE}) {
                Check.outOfRange("right " + right, () -> question.ask(x, STRANGER, 0, right));
            }
        }
    }

    /** The first and the last users and groups, told, told to be no more, and told again. */
    private static void memberByMember() {
        for (int user = 0; user <= 5; user += 5) {
            for (int group = 0; group <= 5; group += 5) {
                AuditgateReeve x = Worlds.withRules();
                x.thing(NONE, 1, 5 - group, 0);
                x.process(1, 0, 0, 0, 0, 0);
                int process = x.process(user, 0, 0, 0, 0, 0);
                String who = "user " + user + " by group " + group;
                x.entry(0, 0, true, group, LOOK, false);
                Check.is(who + ", in which it is not", Worlds.verdict(x, process, 0, LOOK), 1);
                x.member(group, false, user, true);
                Check.is(who + ", in which it is", Worlds.verdict(x, process, 0, LOOK), 0);
                x.member(group, false, user, false);
                Check.is(who + ", in which it is no more", Worlds.verdict(x, process, 0, LOOK), 1);
                x.member(5 - group, false, user, true);
                x.member(group, true, 5 - group, true);
                Check.is(who + ", by way of another", Worlds.verdict(x, process, 0, LOOK), 0);
                x.entry(0, 0, false, user, RUN, false);
                Check.is(who + ", with an entry of its own", Worlds.verdict(x, process, 0, LOOK), 1);
                x.entry(0, 0, false, user, NONE, false);
                x.mode(0, 0, 0070);
                x.member(group, true, 5 - group, false);
                Check.is(who + ", in the thing's group alone", Worlds.verdict(x, process, 0, LOOK), 0);
                x.member(5 - group, false, user, false);
                Check.is(who + ", in none", Worlds.verdict(x, process, 0, LOOK), 1);
            }
        }
    }

    private static void rightsOfReach(Question question) {
        for (int set = 0; set <= 7; set++) {
            AuditgateReeve x = Worlds.withOneThing(set);
            for (int right : Worlds.RIGHTS) {
                Check.is("of " + set + " for " + right, question.ask(x, STRANGER, 0, right),
                    (set & right) != 0 ? 0 : NONE);
            }
            Check.is("nothing is logged", x.entries(), 0);
            for (int right : new int[] {0, 3, 5, 6, 7, 8, NONE}) {
                Check.outOfRange("right " + right, () -> question.ask(x, STRANGER, 0, right));
            }
        }
    }

    /** The first and the last users, domains, fine rights and filters; and no question leaves anything behind. */
    private static void asAllIs(Question question) {
        AuditgateReeve x = Worlds.withRules();
        int goal = x.thing(NONE, 1, 0, 0);
        int root = x.thing(NONE, 0, 0, 01555);
        for (int domain = 0; domain <= 3; domain += 3) {
            x.process(5, domain, 0, 0, 7, 7);
            x.process(0, domain, 0, 0, 0, 0);
            x.process(0, domain, 0, 0, 0, 1);
        }
        for (int turn = 0; turn < 2; turn++) {
            for (int first = 0; first <= 3; first += 3) {
                Check.is("by its fine rights", question.ask(x, first, goal, LOOK), 0);
                Check.is("without fine rights or bounds", question.ask(x, first + 1, goal, LOOK), NONE);
                Check.is("what all may", question.ask(x, first + 1, root, LOOK), 0);
                Check.is("by its bounds, as user 0", question.ask(x, first + 2, goal, LOOK), 1);
                Check.is("what it may as it is", question.ask(x, first + 2, root, LOOK), 0);
            }
        }
        x.filter(2, RUN);
        Check.is("with a filter", question.ask(x, 2, goal, LOOK), NONE);
        Check.is("another one without it", question.ask(x, 5, goal, LOOK), 1);
        x.filter(5, LOOK);
        Check.is("which may not run", question.ask(x, 5, goal, LOOK), NONE);
        Check.is("which may look", question.ask(x, 5, root, LOOK), 0);
        x.filter(0, 7);
        x.filter(0, 7);
        x.filter(0, 6);
        Check.is("by its last filter", question.ask(x, 0, goal, LOOK), NONE);
        Check.is("of others", question.ask(x, 0, goal, RUN), NONE);
        Check.is("to change", question.ask(x, 0, goal, Worlds.CHANGE), 0);
    }

    /** By one thing that is run again and again, and by things that each lead to the next user. */
    private static void atMostThree(Question question) {
        for (int last = 0; last <= 3; last++) {
            AuditgateReeve x = new AuditgateReeve();
            x.thing(NONE, 1, 0, 0777);
            x.thing(NONE, 1, 0, 0777);
            x.type(1, 3);
            for (int domain = 0; domain < 3; domain++) {
                x.rule(domain, 0, RUN);
                x.move(domain, 0, domain + 1);
            }
            x.rule(last, 3, LOOK);
            x.process(1, 0, 0, 0, 0, 0);
            Check.is("a thing " + last + " times", question.ask(x, 0, 1, LOOK), last);
            Check.is("it was not run", x.about(0, 1), 0);
        }
        AuditgateReeve x = withLadder();
        for (int owner = 1; owner <= 5; owner++) {
            Check.is("what user " + owner + " has, from user 1", question.ask(x, 0, owner + 3, LOOK),
                owner == 5 ? NONE : owner - 1);
            Check.is("what user " + owner + " has, from user 2", question.ask(x, 1, owner + 3, LOOK),
                owner == 1 ? NONE : owner - 2);
        }
        x.mode(1, 0, 0);
        Check.is("without the first step", question.ask(x, 0, 5, LOOK), NONE);
        x.process(5, 0, 0, 0, 0, 0);
        Check.is("its own", question.ask(x, 2, 8, LOOK), 0);
        Check.is("nothing leads down", question.ask(x, 2, 7, LOOK), NONE);
    }

    /** Things 0 to 3 lead from user 1 to 2 and so on to 5; things 4 to 8 are those of the users 1 to 5 alone. */
    private static AuditgateReeve withLadder() {
        AuditgateReeve x = Worlds.withRules();
        for (int step = 0; step < 4; step++) {
            x.thing(NONE, step + 2, step, 01040);
            x.member(step, false, step + 1, true);
        }
        for (int owner = 1; owner <= 5; owner++) {
            x.thing(NONE, owner, 5, 0700);
        }
        x.process(1, 0, 0, 0, 0, 0);
        x.process(2, 0, 0, 0, 0, 0);
        return x;
    }

    private static void rightsOfLeast(Question question) {
        for (int set = 0; set <= 7; set++) {
            AuditgateReeve x = Worlds.withOneThing(set << 6 | 7 - set);
            for (int right : Worlds.RIGHTS) {
                Check.is("of " + set + " for the owner for " + right, question.ask(x, 1, 0, right),
                    (set & right) != 0 ? 1 : 0);
                for (int user : new int[] {0, 5}) {
                    Check.is("of the others for " + user + " for " + right, question.ask(x, user, 0, right),
                        (set & right) != 0 ? 0 : 1);
                }
            }
            for (int right : new int[] {0, 3, 5, 6, 7, 8, NONE}) {
                Check.outOfRange("right " + right, () -> question.ask(x, 5, 0, right));
            }
            Check.is("nothing went", x.mode(OWNER, 0, 0), set << 6 | 7 - set);
        }
    }

    /** The first and the last user and group, in the entries and as the group of the thing. */
    private static void firstAndLastOnes(Question question) {
        for (int end = 0; end <= 5; end += 5) {
            AuditgateReeve x = Worlds.withRules();
            x.thing(NONE, 1, end, 0700);
            x.process(1, 0, 0, 0, 0, 0);
            x.entry(0, 0, false, end, LOOK, false);
            Check.is("by the entry of user " + end, question.ask(x, end, 0, LOOK), 1);
            Check.is("another one by it", question.ask(x, 5 - end, 0, LOOK), 0);
            x.entry(0, 0, true, end, LOOK, false);
            x.member(end, false, 3, true);
            Check.is("by the entry of group " + end, question.ask(x, 3, 0, LOOK), 1);
            x.mode(0, 0, 0010);
            Check.is("and as one of the thing's group", question.ask(x, 3, 0, LOOK), 2);
            x.entry(0, 0, true, 5 - end, LOOK, false);
            Check.is("not by that of another group", question.ask(x, 3, 0, LOOK), 2);
            x.member(5 - end, true, end, true);
            Check.is("by way of another", question.ask(x, 3, 0, LOOK), 3);
            x.member(end, false, 3, false);
            Check.is("in it no more", question.ask(x, 3, 0, LOOK), 0);
            x.mask(0, 0, 6);
            x.mode(0, 0, 0011);
            Check.is("others, whom no mask counts for", question.ask(x, 3, 0, LOOK), 1);
            Check.is("the entry of user " + end + " by the mask", question.ask(x, end, 0, LOOK), 0);
            Check.is("fine rights are not asked", question.ask(x, 1, 0, LOOK), 0);
        }
    }

    /** One in all groups: from none that has the right to five entries and the group, of which all have to lose it. */
    private static void noneToSix(Question question) {
        AuditgateReeve x = Worlds.withOneThing(0707);
        for (int group = 0; group <= 5; group++) {
            x.member(group, false, 2, true);
        }
        Check.is("not allowed", question.ask(x, 2, 0, LOOK), 0);
        for (int group = 1; group <= 5; group++) {
            x.entry(OWNER, 0, true, group, 0, false);
        }
        Check.is("not allowed, with entries", question.ask(x, 2, 0, LOOK), 0);
        for (int group = 1; group <= 5; group++) {
            x.entry(OWNER, 0, true, group, 7, false);
            Check.is("entries of " + group + " groups", question.ask(x, 2, 0, LOOK), group);
        }
        x.mode(OWNER, 0, 0777);
        Check.is("five entries and the group", question.ask(x, 2, 0, LOOK), 6);
        Check.is("five entries, asked for another", question.ask(x, 0, 0, LOOK), 1);
        Check.is("five entries, asked for the owner", question.ask(x, 1, 0, LOOK), 1);
        x.mask(OWNER, 0, 6);
        Check.is("by the mask none", question.ask(x, 2, 0, LOOK), 0);
        Check.is("by the mask six of another right", question.ask(x, 2, 0, RUN), 6);
        x.entry(OWNER, 0, true, 5, NONE, false);
        Check.is("an entry less", question.ask(x, 2, 0, RUN), 5);
        x.entry(OWNER, 0, false, 2, RUN, false);
        Check.is("an entry of the user alone counts", question.ask(x, 2, 0, RUN), 1);
        x.entry(OWNER, 0, false, 2, LOOK, false);
        Check.is("an entry of the user that does not allow it", question.ask(x, 2, 0, RUN), 0);
    }
}
