/** Promises 29 to 34. */
public final class QuestionsTest {
    private static final int NONE = AuditgateReeve.NONE;
    private static final int LOOK = AuditgateReeve.LOOK;
    private static final int CHANGE = AuditgateReeve.CHANGE;
    private static final int RUN = AuditgateReeve.RUN;

    private QuestionsTest() {
    }

    public static void main(String[] args) {
        ownersAndOthers();
        usersWithEntries();
        groupsAndEntries();
        firstOnes();
        passingBy();
        labels();
        rulesAndFilters();
        wrongArguments();
        reachByMoves();
        reachByOwners();
        reachByTheFirst();
        leastRights();
        Check.end();
    }

    private static AuditgateReeve withRules() {
        AuditgateReeve x = new AuditgateReeve();
        for (int cell = 0; cell < 16; cell++) {
            x.rule(cell / 4, cell % 4, 7);
        }
        return x;
    }

    /** Promises 29 and 30. */
    private static void verdicts(String when, AuditgateReeve x, int process, int thing, int look, int change, int run) {
        int[] due = {look, change, run};
        for (int i = 0; i < 3; i++) {
            Check.is(when + ": verdict for " + (1 << i), x.verdict(process, thing, 1 << i), due[i]);
            Check.is(when + ": verdictAnew for " + (1 << i), x.verdictAnew(process, thing, 1 << i), due[i]);
        }
    }

    /** Promises 31 and 32. */
    private static void reaches(String when, AuditgateReeve x, int process, int thing, int right, int due) {
        Check.is(when + ": reach", x.reach(process, thing, right), due);
        Check.is(when + ": reachAnew", x.reachAnew(process, thing, right), due);
    }

    /** Promises 33 and 34. */
    private static void leasts(String when, AuditgateReeve x, int user, int thing, int look, int change, int run) {
        int[] due = {look, change, run};
        for (int i = 0; i < 3; i++) {
            Check.is(when + ": least for " + (1 << i), x.least(user, thing, 1 << i), due[i]);
            Check.is(when + ": leastAnew for " + (1 << i), x.leastAnew(user, thing, 1 << i), due[i]);
        }
    }

    private static void ownersAndOthers() {
        AuditgateReeve x = withRules();
        x.thing(NONE, 1, 3, 0124);
        x.member(3, false, 1, true);
        x.member(3, false, 2, true);
        x.process(1, 0, 0, 0, 0, 0);
        x.process(2, 0, 0, 0, 0, 0);
        x.process(3, 0, 0, 0, 0, 0);
        verdicts("the owner, though in the group", x, 0, 0, 0, 1, 1);
        verdicts("the group", x, 1, 0, 1, 0, 1);
        verdicts("another", x, 2, 0, 1, 1, 0);
        x.entry(0, 0, false, 1, 7, false);
        x.mask(0, 0, 0);
        verdicts("the owner's rights are neither entry's nor masked", x, 0, 0, 0, 1, 1);
        verdicts("others' rights are not masked", x, 2, 0, 1, 1, 0);
        verdicts("the group's are, as there is an entry", x, 1, 0, 1, 1, 1);
        x.entry(0, 0, false, 1, NONE, false);
        verdicts("and are not, as there is none", x, 1, 0, 1, 0, 1);
    }

    private static void usersWithEntries() {
        AuditgateReeve x = withRules();
        x.thing(NONE, 1, 3, 0777);
        x.member(3, false, 2, true);
        x.member(4, false, 2, true);
        x.process(1, 0, 0, 0, 0, 0);
        x.process(2, 0, 0, 0, 0, 0);
        x.entry(0, 0, true, 4, 7, false);
        x.entry(0, 0, false, 2, 3, false);
        verdicts("the user's entry ahead of groups", x, 1, 0, 0, 0, 1);
        x.mask(0, 0, 6);
        verdicts("by the mask", x, 1, 0, 1, 0, 1);
        x.entry(0, 0, false, 2, 0, false);
        verdicts("of no rights", x, 1, 0, 1, 1, 1);
        x.entry(0, 0, false, 2, NONE, false);
        verdicts("without it the groups", x, 1, 0, 1, 0, 0);
    }

    private static void groupsAndEntries() {
        AuditgateReeve x = withRules();
        x.thing(NONE, 1, 3, 0017);
        x.process(1, 0, 0, 0, 0, 0);
        x.process(2, 0, 0, 0, 0, 0);
        x.entry(0, 0, true, 4, 2, false);
        x.entry(0, 0, true, 5, 4, false);
        verdicts("in none of them", x, 1, 0, 0, 0, 0);
        x.member(4, false, 2, true);
        verdicts("in one with an entry, no more among others", x, 1, 0, 1, 0, 1);
        x.member(0, false, 2, true);
        x.member(5, true, 0, true);
        verdicts("at least one of two", x, 1, 0, 1, 0, 0);
        x.member(3, true, 0, true);
        verdicts("the group of the thing likewise", x, 1, 0, 0, 0, 0);
        x.mask(0, 0, 4);
        verdicts("all by the mask", x, 1, 0, 1, 1, 0);
        x.member(0, false, 2, false);
        verdicts("of one that is left", x, 1, 0, 1, 1, 1);
        x.entry(0, 0, true, 4, 0, false);
        verdicts("an entry without rights is one", x, 1, 0, 1, 1, 1);
        x.entry(0, 0, true, 4, NONE, false);
        verdicts("among others without it", x, 1, 0, 0, 0, 0);
    }

    /** User 0, group 0 and thing 0 count like all others. */
    private static void firstOnes() {
        AuditgateReeve x = withRules();
        x.thing(NONE, 1, 4, 0060);
        x.process(0, 0, 0, 0, 0, 0);
        x.process(1, 0, 0, 0, 1, 1);
        x.process(2, 0, 0, 0, 0, 0);
        x.member(4, false, 0, true);
        verdicts("user 0 by the group", x, 0, 0, 1, 0, 0);
        leasts("user 0 by the group", x, 0, 0, 0, 1, 1);
        x.entry(1, 0, false, 0, 1, false);
        verdicts("user 0 by an entry", x, 0, 0, 0, 1, 1);
        leasts("user 0 by an entry", x, 0, 0, 1, 0, 0);
        x.entry(1, 0, false, 0, 4, false);
        verdicts("the right of user 0's entry to run", x, 1, 0, 0, 0, 0);
        x.mode(1, 0, 0);
        verdicts("that right alone", x, 1, 0, 0, 0, 0);
        x.entry(1, 0, true, 0, 3, false);
        x.member(0, false, 2, true);
        verdicts("by the entry of group 0", x, 2, 0, 0, 0, 1);
        x.member(4, false, 0, false);
        x.member(0, false, 0, true);
        x.entry(1, 0, false, 0, NONE, false);
        verdicts("user 0 by the entry of group 0", x, 0, 0, 0, 0, 1);
        x.member(0, false, 0, false);
        verdicts("user 0 no more in it", x, 0, 0, 1, 1, 1);
        leasts("by the entry of group 0", x, 2, 0, 1, 1, 0);
    }

    private static void passingBy() {
        AuditgateReeve x = withRules();
        x.thing(NONE, 1, 3, 0);
        x.process(1, 0, 0, 0, 0, 0);
        x.process(2, 0, 0, 0, 1, 1);
        x.process(2, 0, 0, 0, 6, 7);
        verdicts("nobody may run it", x, 1, 0, 0, 0, 1);
        verdicts("by other fine rights", x, 2, 0, 1, 1, 1);
        for (int shift = 0; shift < 9; shift += 3) {
            x.mode(0, 0, 4 << shift);
            Check.is("somebody may run it, " + shift, x.verdict(1, 0, RUN), 0);
            Check.is("somebody may run it anew, " + shift, x.verdictAnew(1, 0, RUN), 0);
        }
        x.mode(0, 0, 01333);
        verdicts("bit 9 and the others are not to run", x, 1, 0, 0, 0, 1);
        x.entry(0, 0, false, 5, 4, false);
        x.mask(0, 0, 0);
        verdicts("in a user's entry, masked or not", x, 1, 0, 0, 0, 0);
        x.entry(0, 0, false, 5, 3, false);
        verdicts("an entry for other rights", x, 1, 0, 0, 0, 1);
        x.entry(0, 0, true, 5, 4, false);
        verdicts("in a group's entry", x, 1, 0, 0, 0, 0);
    }

    private static void labels() {
        AuditgateReeve x = withRules();
        x.thing(NONE, 1, 3, 0777);
        x.process(1, 0, 1, 3, 0, 0);
        x.process(2, 0, 3, 7, 4, 4);
        verdicts("above it", x, 0, 0, 0, 2, 0);
        x.label(1, 0, 1, 3);
        verdicts("as high", x, 0, 0, 0, 0, 0);
        x.label(1, 0, 2, 3);
        verdicts("a level below it", x, 0, 0, 2, 0, 2);
        x.label(1, 0, 1, 7);
        verdicts("with a category less", x, 0, 0, 2, 0, 2);
        x.label(1, 0, 1, 1);
        verdicts("with a category more", x, 0, 0, 0, 2, 0);
        x.label(1, 0, 0, 3);
        verdicts("a level above it", x, 0, 0, 0, 2, 0);
        x.label(1, 0, 1, 5);
        verdicts("beside it", x, 0, 0, 2, 2, 2);
        x.mode(0, 0, 0);
        verdicts("modes are told first", x, 0, 0, 1, 1, 1);
    }

    private static void rulesAndFilters() {
        AuditgateReeve x = new AuditgateReeve();
        x.thing(NONE, 1, 3, 0777);
        x.type(0, 2);
        x.process(1, 1, 0, 0, 0, 0);
        verdicts("no rules", x, 0, 0, 3, 3, 3);
        x.rule(1, 2, 5);
        verdicts("of its domain on that type", x, 0, 0, 0, 3, 0);
        x.filter(0, 6);
        verdicts("a filter", x, 0, 0, 4, 3, 0);
        x.filter(0, 3);
        verdicts("two filters", x, 0, 0, 4, 3, 4);
        int labeller = x.process(2, 3, 3, 7, 4, 4);
        x.label(labeller, 0, 0, 1);
        verdicts("labels are told first", x, 0, 0, 2, 3, 2);
        AuditgateReeve y = withRules();
        y.thing(NONE, 1, 3, 0777);
        y.process(1, 0, 0, 0, 7, 7);
        for (int i = 0; i < 3; i++) {
            y.filter(0, 7 - (1 << i));
            Check.is("filter " + i, y.verdict(0, 0, 1 << i), 4);
            Check.is("filter anew " + i, y.verdictAnew(0, 0, 1 << i), 4);
        }
        Check.is("questions are not logged", y.entries(), 0);
    }

    private static void wrongArguments() {
        AuditgateReeve x = withRules();
        x.thing(NONE, 1, 3, 0777);
        x.process(1, 0, 0, 0, 0, 0);
        int[][] missing = {{1, 0, 3}, {-1, 0, 3}, {0, 1, 3}, {0, -1, 3}, {0, 12, 1}, {8, 0, 1}};
        for (int[] m : missing) {
            Check.noSuchOne("verdict", () -> x.verdict(m[0], m[1], m[2]));
            Check.noSuchOne("verdictAnew", () -> x.verdictAnew(m[0], m[1], m[2]));
            Check.noSuchOne("reach", () -> x.reach(m[0], m[1], m[2]));
            Check.noSuchOne("reachAnew", () -> x.reachAnew(m[0], m[1], m[2]));
        }
        int[][] nobody = {{6, 0, 3}, {-1, 0, 3}, {0, 1, 3}, {0, -1, 3}};
        for (int[] m : nobody) {
            Check.noSuchOne("least", () -> x.least(m[0], m[1], m[2]));
            Check.noSuchOne("leastAnew", () -> x.leastAnew(m[0], m[1], m[2]));
        }
        for (int right : new int[] {0, 3, 5, 6, 7, 8, -1, -4, Integer.MIN_VALUE, Integer.MAX_VALUE}) {
            Check.outOfRange("verdict " + right, () -> x.verdict(0, 0, right));
            Check.outOfRange("verdictAnew " + right, () -> x.verdictAnew(0, 0, right));
            Check.outOfRange("reach " + right, () -> x.reach(0, 0, right));
            Check.outOfRange("reachAnew " + right, () -> x.reachAnew(0, 0, right));
            Check.outOfRange("least " + right, () -> x.least(5, 0, right));
            Check.outOfRange("leastAnew " + right, () -> x.leastAnew(5, 0, right));
        }
    }

    private static void reachByMoves() {
        AuditgateReeve x = new AuditgateReeve();
        int goal = x.thing(NONE, 1, 3, 0777);
        x.type(goal, 3);
        int step = x.thing(NONE, 1, 3, 0777);
        x.process(1, 0, 0, 0, 0, 0);
        reaches("nothing may be run", x, 0, goal, LOOK, NONE);
        for (int domain = 0; domain < 3; domain++) {
            x.rule(domain, 0, RUN);
            x.move(domain, 0, domain + 1);
        }
        reaches("no domain may", x, 0, goal, LOOK, NONE);
        x.rule(3, 3, LOOK);
        reaches("the same thing three times", x, 0, goal, LOOK, 3);
        reaches("another right", x, 0, goal, CHANGE, NONE);
        x.move(1, 0, 3);
        reaches("a shorter way", x, 0, goal, LOOK, 2);
        x.move(0, 0, 3);
        reaches("one run", x, 0, goal, LOOK, 1);
        x.rule(0, 3, LOOK);
        reaches("none to run", x, 0, goal, LOOK, 0);
        Check.is("nothing was run", x.about(0, 1), 0);
        Check.is("nothing was logged", x.entries(), 0);
        x.rule(0, 3, 0);
        x.filter(0, 3);
        reaches("filters stay", x, 0, goal, LOOK, NONE);
        x.process(2, 0, 0, 0, 0, 0);
        reaches("another process", x, 1, goal, LOOK, 1);
        x.mode(0, step, 0700);
        reaches("which may not run it", x, 1, goal, LOOK, NONE);
    }

    private static void reachByOwners() {
        AuditgateReeve x = withRules();
        int goal = x.thing(NONE, 5, 3, 0700);
        for (int user = 2; user < 6; user++) {
            x.thing(NONE, user, user - 2, 01770);
            x.member(user - 2, false, user - 1, true);
        }
        x.process(1, 0, 0, 0, 0, 0);
        x.process(2, 0, 0, 0, 0, 0);
        reaches("four would be too many", x, 0, goal, LOOK, NONE);
        reaches("from the second", x, 1, goal, LOOK, 3);
        int root = x.thing(NONE, 0, 5, 01707);
        reaches("user 0 without bounds", x, 0, goal, CHANGE, NONE);
        x.process(1, 0, 0, 0, 0, 1);
        reaches("user 0 with bounds", x, 2, goal, CHANGE, 1);
        x.process(1, 0, 0, 0, 0, 6);
        reaches("bounds of other fine rights", x, 3, goal, CHANGE, NONE);
        int labeller = x.process(0, 0, 1, 0, 4, 4);
        x.label(labeller, root, 1, 0);
        reaches("the level stays", x, 2, goal, CHANGE, NONE);
        Check.is("the process is as it was", x.about(2, 0) * 10 + x.about(2, 4), 10);
    }

    private static void reachByTheFirst() {
        AuditgateReeve x = withRules();
        int step = x.thing(NONE, 3, 2, 01704);
        int goal = x.thing(NONE, 3, 2, 0700);
        x.process(1, 0, 1, 6, 0, 0);
        reaches("by thing 0", x, 0, goal, LOOK, 1);
        int labeller = x.process(5, 0, 3, 7, 4, 4);
        x.label(labeller, step, 1, 4);
        reaches("with its categories", x, 0, goal, LOOK, 1);
        x.label(labeller, step, 1, 1);
        reaches("without that category", x, 0, goal, LOOK, NONE);
        x.label(labeller, step, 0, 0);
        x.filter(0, 5);
        x.label(labeller, goal, 1, 6);
        reaches("with its filter", x, 0, goal, LOOK, 1);
        reaches("which does not let it change", x, 0, goal, CHANGE, NONE);
        x.process(0, 0, 1, 6, 0, 0);
        reaches("by user 0 in domain 0 without fine rights", x, 2, goal, LOOK, 1);
        for (int i = 2; i < 12; i++) {
            x.thing(NONE, 5, 0, 01004);
        }
        reaches("among twelve things", x, 2, goal, LOOK, 1);
        reaches("by the last of them", x, 2, 11, CHANGE, NONE);
        x.mode(labeller, 11, 01204);
        x.type(11, 1);
        reaches("with the label in the way", x, 2, 11, CHANGE, NONE);
        x.label(labeller, 11, 1, 6);
        reaches("by ten others", x, 2, 11, CHANGE, 1);
    }

    private static void leastRights() {
        AuditgateReeve x = withRules();
        x.thing(NONE, 1, 0, 0175);
        x.process(1, 0, 0, 0, 0, 0);
        leasts("the owner", x, 1, 0, 1, 0, 0);
        leasts("others", x, 5, 0, 1, 0, 1);
        for (int group = 0; group < 4; group++) {
            x.member(group, false, 2, true);
        }
        leasts("the group", x, 2, 0, 1, 1, 1);
        x.entry(0, 0, true, 1, 7, false);
        x.entry(0, 0, true, 2, 6, false);
        x.entry(0, 0, true, 3, 4, false);
        x.entry(0, 0, true, 4, 7, false);
        leasts("groups with entries, and the group", x, 2, 0, 2, 3, 4);
        x.mask(0, 0, 3);
        leasts("by the mask", x, 2, 0, 2, 3, 0);
        leasts("others are not masked", x, 5, 0, 1, 0, 1);
        x.member(0, false, 2, false);
        leasts("not in the group", x, 2, 0, 1, 2, 0);
        x.entry(0, 0, false, 2, 5, false);
        leasts("a user with an entry", x, 2, 0, 1, 0, 0);
        leasts("the owner again", x, 1, 0, 1, 0, 0);
        Check.is("nothing went", x.mode(0, 0, 0175), 0175);
        Check.is("nor from an entry", x.entry(0, 0, false, 2, NONE, false), 5);
        Check.is("labels and rules are not asked", x.rule(0, 0, 0), 7);
        leasts("by modes and entries alone", x, 5, 0, 1, 0, 1);
        x.entry(0, 0, true, 1, 7, false);
        x.member(0, false, 2, true);
        x.entry(0, 0, true, 5, 7, false);
        x.member(4, false, 2, true);
        x.member(5, false, 2, true);
        x.mask(0, 0, 7);
        leasts("five entries and the group", x, 2, 0, 4, 5, 6);
    }
}
