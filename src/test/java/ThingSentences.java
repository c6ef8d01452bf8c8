/** The sentences of the promises 2 to 10 that name no boundary. */
final class ThingSentences {
    private static final int NONE = Worlds.NONE;
    private static final int LOOK = Worlds.LOOK;
    private static final int OWNER = Worlds.OWNER;
    private static final int STRANGER = Worlds.STRANGER;
    private static final int MASTER = Worlds.MASTER;

    /** A call that sets something of a thing and answers what was before. */
    interface Setting {
        int answer(AuditgateReeve x, int process, int thing, int to);
    }

    private ThingSentences() {
    }

    static void all() {
        Sentences.under("Promise 2: member");
        Sentences.holds("Makes a user or a group a member of a group, or no more.", ThingSentences::membersAndNoMore);
        Sentences.under("Promise 3: groups");
        Sentences.holds("Returns in which groups a user is.", ThingSentences::inWhichGroups);
        Sentences.under("Promise 4: thing");
        Sentences.holds("Returns its number.", ThingSentences::numbersOfThings);
        Sentences.under("Promise 5: type");
        Setting type = (x, process, thing, to) -> x.type(thing, to);
        Sentences.holds("Sets the type of a thing.", ThingSentences::typesByRules);
        Sentences.holds("Returns the type before.", () -> ofEachThing(type, 0, 3));
        Sentences.under("Promise 6: mode");
        Sentences.holds("Changes the mode of a thing by a process.", () -> byEachProcess(AuditgateReeve::mode, 0));
        Sentences.holds("Returns the mode before.", () -> ofEachThing(AuditgateReeve::mode, 0, 1023));
        Sentences.under("Promise 7: mask");
        Sentences.holds("Changes the mask of a thing by a process.", () -> byEachProcess(AuditgateReeve::mask, 7));
        Sentences.holds("Returns the mask before.", () -> ofEachThing(AuditgateReeve::mask, 7, 7));
        Sentences.under("Promise 8: entry");
        Sentences.holds("Sets an entry of a thing by a process, or takes it away.", ThingSentences::entries);
        Sentences.under("Promise 9: give");
        Sentences.holds("Gives a thing to another owner by a process.", ThingSentences::owners);
        Sentences.under("Promise 10: label");
        Sentences.holds("Changes the label of a thing by a process.", ThingSentences::labels);
    }

    // ---- groups

    private static void membersAndNoMore() {
        for (int cell = 0; cell < 36; cell++) {
            int group = cell / 6;
            int member = cell % 6;
            AuditgateReeve x = new AuditgateReeve();
            x.member(group, false, member, true);
            for (int user = 0; user < 6; user++) {
                Check.is("user " + member + " in group " + group + ", asked of " + user, x.groups(user),
                    user == member ? 1 << group : 0);
            }
            x.member(group, false, member, false);
            Check.is("user " + member + " no more in group " + group, x.groups(member), 0);
            if (group != member) {
                x.member(member, false, 3, true);
                x.member(group, true, member, true);
                Check.is("group " + member + " in group " + group, x.groups(3), 1 << member | 1 << group);
                x.member(group, true, member, false);
                Check.is("group " + member + " no more in group " + group, x.groups(3), 1 << member);
            }
        }
    }

    /** All ways in which the groups 0 to 3 can be in those with a higher number, and a user in one of them. */
    private static void inWhichGroups() {
        for (int set = 0; set < 64; set++) {
            AuditgateReeve x = new AuditgateReeve();
            boolean[][] isIn = new boolean[4][4];
            int bit = 0;
            for (int outer = 1; outer < 4; outer++) {
                for (int inner = 0; inner < outer; inner++) {
                    isIn[inner][outer] = (set >> bit & 1) == 1;
                    bit++;
                    x.member(outer, true, inner, isIn[inner][outer]);
                }
            }
            for (int user = 0; user < 4; user++) {
                x.member(user, false, user, true);
                // Groups are only in higher ones, so that one round from the lowest up finds all.
                int due = 1 << user;
                for (int inner = user; inner < 4; inner++) {
                    for (int outer = inner + 1; outer < 4; outer++) {
                        due |= (due >> inner & 1) == 1 && isIn[inner][outer] ? 1 << outer : 0;
                    }
                }
                Check.is("user " + user + " with the groups " + set, x.groups(user), due);
            }
            Check.is("a user in none", x.groups(4), 0);
        }
    }

    // ---- things

    private static AuditgateReeve withTwelveThings() {
        AuditgateReeve x = Worlds.withOneThing(0);
        for (int i = 1; i < 12; i++) {
            x.thing(NONE, 1, 0, 0);
        }
        return x;
    }

    private static void numbersOfThings() {
        AuditgateReeve x = Worlds.withOneThing(0700);
        for (int i = 1; i < 12; i++) {
            Check.is("thing " + i, x.thing(i % 2 == 0 ? NONE : i - 1, i % 6, i % 6, i), i);
            Check.is("it is told by that number", x.give(MASTER, i, 0) * 1024 + x.mode(MASTER, i, 0), i % 6 * 1024 + i);
        }
    }

    /** Each of twelve things gets a number of its own: none touches another one's. */
    private static void ofEachThing(Setting setting, int atFirst, int most) {
        AuditgateReeve x = withTwelveThings();
        for (int turn = 0; turn < 4; turn++) {
            for (int thing = 0; thing < 12; thing++) {
                Check.is("turn " + turn + ", thing " + thing,
                    setting.answer(x, MASTER, thing, numberOf(thing, turn, most)),
                    turn == 0 ? atFirst : numberOf(thing, turn - 1, most));
            }
        }
    }

    private static int numberOf(int thing, int turn, int most) {
        return (85 * thing + 301 * turn + 1) % (most + 1);
    }

    private static void typesByRules() {
        AuditgateReeve x = withTwelveThings();
        int owner = x.process(1, 2, 0, 0, 0, 0);
        x.rule(2, 0, 0);
        x.rule(2, 3, 3);
        for (int thing = 0; thing < 12; thing++) {
            x.mode(MASTER, thing, 0700);
            x.type(thing, thing % 4);
        }
        for (int thing = 0; thing < 12; thing++) {
            int due = thing % 4 == 0 ? 0 : thing % 4 == 3 ? 3 : 7;
            for (int right : Worlds.RIGHTS) {
                Check.is("of type " + thing % 4 + " for " + right, Worlds.verdict(x, owner, thing, right),
                    (due & right) != 0 ? 0 : 3);
            }
        }
    }

    /** Thing 0 of user 1; eight processes of that user, or of another one, with all sets of fine rights. */
    private static AuditgateReeve withEightProcesses(boolean isOwners) {
        AuditgateReeve x = Worlds.withRules();
        x.thing(NONE, 1, 0, 0);
        for (int fine = 0; fine < 8; fine++) {
            x.process(isOwners ? 1 : 4, fine % 4, 3, 7, fine, 7);
        }
        return x;
    }

    private static String answerDue(boolean isAllowed, int answer) {
        return isAllowed ? Integer.toString(answer) : "throws.UnsupportedOperationException";
    }

    private static void byEachProcess(Setting setting, int atFirst) {
        for (boolean isOwners : new boolean[] {true, false}) {
            AuditgateReeve x = withEightProcesses(isOwners);
            int before = atFirst;
            for (int fine = 0; fine < 8; fine++) {
                int process = fine;
                boolean isAllowed = isOwners || fine / 2 % 2 == 1;
                Check.is("by the owner (" + isOwners + ") with the fine rights " + fine,
                    Check.answerOf(() -> setting.answer(x, process, 0, process)), answerDue(isAllowed, before));
                before = isAllowed ? fine : before;
            }
            Check.is("at last", setting.answer(x, 7, 0, 0), before);
        }
    }

    private static void entries() {
        byEachProcess((x, process, thing, to) -> x.entry(process, thing, false, 5, to, false), NONE);
        byEachProcess((x, process, thing, to) -> x.entry(process, thing, true, 0, to, true), NONE);
        AuditgateReeve x = withTwelveThings();
        for (int thing = 0; thing < 12; thing++) {
            x.entry(OWNER, thing, thing % 2 == 1, thing % 6, thing % 8, false);
        }
        for (int who = 0; who < 12; who++) {
            for (int thing = 0; thing < 12; thing++) {
                boolean isThatOne = who % 2 == thing % 2 && who / 2 == thing % 6;
                Check.is("entry " + who + " of thing " + thing + " taken away",
                    Worlds.entryOf(x, thing, who % 2 == 1, who / 2), isThatOne ? thing % 8 : NONE);
            }
        }
    }

    private static void owners() {
        for (boolean isOwners : new boolean[] {true, false}) {
            for (int to = 0; to < 6; to++) {
                AuditgateReeve x = withEightProcesses(isOwners);
                int owner = to;
                for (int fine = 0; fine < 8; fine++) {
                    int process = fine;
                    boolean isAllowed = fine / 2 % 2 == 1 || isOwners && to == 1;
                    Check.is("to " + to + " by the owner (" + isOwners + ") with the fine rights " + fine,
                        Check.answerOf(() -> x.give(process, 0, owner)), answerDue(isAllowed, 1));
                    Check.is("and back", x.give(7, 0, 1), isAllowed ? to : 1);
                }
            }
        }
        AuditgateReeve x = withTwelveThings();
        for (int thing = 0; thing < 12; thing++) {
            x.mode(MASTER, thing, 0700);
            x.give(MASTER, thing, thing % 6);
        }
        for (int thing = 0; thing < 12; thing++) {
            Check.is("thing " + thing + " by user 1", Worlds.verdict(x, OWNER, thing, LOOK), thing % 6 == 1 ? 0 : 1);
            Check.is("thing " + thing + " by user 2", Worlds.verdict(x, STRANGER, thing, LOOK), thing % 6 == 2 ? 0 : 1);
        }
    }

    private static void labels() {
        for (boolean isOwners : new boolean[] {true, false}) {
            AuditgateReeve x = withEightProcesses(isOwners);
            int before = 0;
            for (int fine = 0; fine < 8; fine++) {
                int process = fine;
                boolean isAllowed = fine / 4 == 1;
                Check.is("by the owner (" + isOwners + ") with the fine rights " + fine,
                    Check.answerOf(() -> x.label(process, 0, process % 4, process)), answerDue(isAllowed, before));
                before = isAllowed ? fine % 4 * 10 + fine : before;
            }
        }
        ofEachThing((x, process, thing, to) -> x.label(process, thing, to % 4, 7) / 10, 0, 3);
        ofEachThing((x, process, thing, to) -> x.label(process, thing, 0, to), 0, 7);
    }
}
