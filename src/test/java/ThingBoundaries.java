/** The sentences of the promises 1 to 10 that name a boundary; RefusedCalls has those that begin with "Throws". */
final class ThingBoundaries {
    private static final int NONE = Worlds.NONE;
    private static final int LOOK = Worlds.LOOK;
    private static final int RUN = Worlds.RUN;
    private static final int OWNER = Worlds.OWNER;
    private static final int STRANGER = Worlds.STRANGER;
    private static final int MASTER = Worlds.MASTER;

    private ThingBoundaries() {
    }

    static void all() {
        Sentences.under("Promise 1: A new object");
        Sentences.holds("Begins with empty groups, without things, rules and processes.", ThingBoundaries::begins);
        Sentences.under("Promise 2: member");
        Sentences.holds("Returns whether it was.", ThingBoundaries::whetherItWas);
        Sentences.under("Promise 3: groups");
        Sentences.holds("Returns the set: bit g for the group g.", ThingBoundaries::groupSets);
        Sentences.under("Promise 4: thing");
        Sentences.holds("Makes a thing, of type 0, level 0, without categories.", ThingBoundaries::newThing);
        Sentences.holds("- `in`: a thing, or NONE", ThingBoundaries::inOfThing);
        Sentences.holds("- `mode`: 0 to 1023", ThingBoundaries::modeOfThing);
        Sentences.under("Promise 5: type");
        Sentences.holds("- `type`: 0 to 3", ThingBoundaries::types);
        Sentences.under("Promise 6: mode");
        Sentences.holds("- `mode`: 0 to 1023", ThingBoundaries::modes);
        Sentences.under("Promise 7: mask");
        Sentences.holds("- `mask`: 0 to 7", ThingBoundaries::masks);
        Sentences.under("Promise 8: entry");
        Sentences.holds("- `who`: the user, or group", ThingBoundaries::entryWho);
        Sentences.holds("- `rights`: 0 to 7; NONE to take it away", ThingBoundaries::entryRights);
        Sentences.holds("Returns the rights that it had; NONE if there was none.", ThingBoundaries::entryBefore);
        Sentences.holds("if there are 5 others, and it is not taken away", ThingBoundaries::fiveOthers);
        Sentences.under("Promise 9: give");
        Sentences.holds("Returns the owner before.", ThingBoundaries::ownerBefore);
        Sentences.under("Promise 10: label");
        Sentences.holds("- `level`: 0 to 3", ThingBoundaries::levels);
        Sentences.holds("- `categories`: 0 to 7", ThingBoundaries::categories);
        Sentences.holds("Returns 10 times the level before, and the categories before, together.",
            ThingBoundaries::labelBefore);
    }

    private static void begins() {
        AuditgateReeve x = new AuditgateReeve();
        for (int n = 0; n < 6; n++) {
            int number = n;
            Check.is("groups(" + n + ")", x.groups(n), 0);
            Check.noSuchOne("thing " + n, () -> x.type(number, 0));
            Check.noSuchOne("thing " + n + " to look at", () -> x.least(0, number, LOOK));
            Check.noSuchOne("process " + n, () -> x.about(number, 0));
            Check.noSuchOne("entry " + n, () -> x.logged(number, 0));
            for (int m = 0; m < 6; m++) {
                Check.is("user " + m + " in group " + n, x.member(n, false, m, false), false);
                Check.is("group " + m + " in group " + n, x.member(n, true, m, false), false);
            }
        }
        for (int cell = 0; cell < 16; cell++) {
            Check.is("rule", x.rule(cell / 4, cell % 4, 7), 0);
            Check.is("move", x.move(cell / 4, cell % 4, 0), NONE);
        }
        Check.is("entries()", x.entries(), 0);
        Check.is("lost()", x.lost(), 0);
        Check.is("broken()", x.broken(), NONE);
        Check.is("pass(1)", x.pass(1), 1);
        Check.is("a thing", x.thing(NONE, 0, 0, 0), 0);
        Check.is("a process", x.process(0, 0, 0, 0, 0, 0), 0);
        Check.is("a token", x.token(0, 0, 1, 1), 0);
        Check.noSuchOne("a process of a new object", () -> new AuditgateReeve().about(0, 0));
    }

    private static void whetherItWas() {
        AuditgateReeve x = new AuditgateReeve();
        boolean was = false;
        for (boolean is : new boolean[] {false, true, true, false, false, true}) {
            Check.is("user 5 in group 0, from " + was + " to " + is, x.member(0, false, 5, is), was);
            Check.is("group 0 in group 5, from " + was + " to " + is, x.member(5, true, 0, is), was);
            Check.is("groups(5)", x.groups(5), is ? 33 : 0);
            was = is;
        }
        Check.is("in it by way of another is not a member of it", x.member(5, false, 5, true), false);
        Check.is("no more a member, but in it by way of another", x.member(5, false, 5, false), true);
        Check.is("groups(5)", x.groups(5), 33);
    }

    private static void groupSets() {
        AuditgateReeve x = new AuditgateReeve();
        int due = 0;
        for (int group = 5; group >= 0; group--) {
            Check.is("of " + (5 - group) + " groups", x.groups(0), due);
            x.member(group, false, 0, true);
            due += 1 << group;
        }
        Check.is("of all groups", x.groups(0), 63);
    }

    private static void newThing() {
        AuditgateReeve x = Worlds.withOneThing(0777);
        x.type(0, 3);
        x.label(MASTER, 0, 3, 7);
        int made = x.thing(0, 1, 0, 0777);
        Check.is("its label, though that of the one it is in is 37", x.label(MASTER, made, 0, 0), 0);
        Check.is("its type, though that of the one it is in is 3", x.type(made, 0), 0);
        Check.is("its number", made, 1);
    }

    private static void inOfThing() {
        AuditgateReeve x = Worlds.withOneThing(0);
        x.entry(OWNER, 0, false, 4, 5, true);
        Check.is("in NONE", x.thing(NONE, 1, 0, 0), 1);
        Check.is("which hands nothing down", Worlds.entryOf(x, 1, false, 4), NONE);
        Check.is("in the first thing", x.thing(0, 1, 0, 0), 2);
        Check.is("which hands down", Worlds.entryOf(x, 2, false, 4), 5);
        x.entry(OWNER, 2, false, 3, 6, true);
        Check.is("in the last thing", x.thing(2, 1, 0, 0), 3);
        Check.is("which hands down its own", Worlds.entryOf(x, 3, false, 3), 6);
        Check.is("and not what was taken away", Worlds.entryOf(x, 3, false, 4), NONE);
        Check.noSuchOne("below NONE", () -> x.thing(-2, 1, 0, 0));
        Check.noSuchOne("in itself", () -> x.thing(4, 1, 0, 0));
    }

    private static void modeOfThing() {
        AuditgateReeve x = Worlds.withOneThing(0);
        int[] modes = {0, 1, 511, 512, 1022, 1023};
        for (int mode : modes) {
            int made = x.thing(NONE, 1, 0, mode);
            Check.is("the mode " + mode, x.mode(OWNER, made, 0), mode);
        }
        Check.is("1023 to others", x.verdict(STRANGER, x.thing(NONE, 1, 0, 1023), RUN), 0);
        Check.is("512 to others", x.verdict(STRANGER, x.thing(NONE, 1, 0, 512), RUN), 1);
        Edges.refusedBeyond("mode", 0, 1023, n -> x.thing(NONE, 1, 0, n));
        Check.is("what was refused made none", x.thing(NONE, 1, 0, 0), 9);
    }

    private static void types() {
        AuditgateReeve x = new AuditgateReeve();
        x.thing(NONE, 0, 0, 0);
        x.thing(NONE, 0, 0, 0);
        int[] types = {0, 3, 3, 0, 1, 2, 3};
        int before = 0;
        for (int type : types) {
            Check.is("from " + before + " to " + type, x.type(0, type), before);
            before = type;
        }
        Check.is("of the other thing", x.type(1, 0), 0);
    }

    private static void modes() {
        AuditgateReeve x = Worlds.withOneThing(1023);
        int before = 1023;
        for (int mode : new int[] {0, 1023, 1023, 0, 512, 511, 1}) {
            Check.is("from " + before + " to " + mode, x.mode(OWNER, 0, mode), before);
            Check.is("to others", Worlds.verdict(x, STRANGER, 0, LOOK), mode % 2 == 1 ? 0 : 1);
            before = mode;
        }
    }

    private static void masks() {
        AuditgateReeve x = Worlds.withOneThing(0);
        x.entry(OWNER, 0, false, 2, 7, false);
        int before = 7;
        for (int mask : new int[] {7, 0, 0, 7, 1, 2, 3, 4, 5, 6}) {
            Check.is("from " + before + " to " + mask, x.mask(OWNER, 0, mask), before);
            for (int right : Worlds.RIGHTS) {
                Check.is("for " + right, Worlds.verdict(x, STRANGER, 0, right), (mask & right) != 0 ? 0 : 1);
            }
            before = mask;
        }
    }

    private static void entryWho() {
        AuditgateReeve x = Worlds.withOneThing(0);
        int first = x.process(0, 0, 0, 0, 0, 0);
        int last = x.process(5, 0, 0, 0, 0, 0);
        for (int who = 0; who <= 5; who += 5) {
            Check.is("of user " + who, x.entry(OWNER, 0, false, who, LOOK, false), NONE);
            Check.is("user 0", Worlds.verdict(x, first, 0, LOOK), who == 0 ? 0 : 1);
            Check.is("user 5", Worlds.verdict(x, last, 0, LOOK), who == 5 ? 0 : 1);
            Check.is("of group " + who, Worlds.entryOf(x, 0, true, who), NONE);
            Check.is("of user " + who + " away", Worlds.entryOf(x, 0, false, who), LOOK);
        }
        x.member(0, false, 0, true);
        x.member(5, false, 5, true);
        for (int who = 0; who <= 5; who += 5) {
            Check.is("of group " + who, x.entry(OWNER, 0, true, who, LOOK, false), NONE);
            Check.is("user 0 of group 0", Worlds.verdict(x, first, 0, LOOK), who == 0 ? 0 : 1);
            Check.is("user 5 of group 5", Worlds.verdict(x, last, 0, LOOK), who == 5 ? 0 : 1);
            Check.is("of user " + who, Worlds.entryOf(x, 0, false, who), NONE);
            Check.is("of group " + who + " away", Worlds.entryOf(x, 0, true, who), LOOK);
        }
    }

    private static void entryRights() {
        AuditgateReeve x = Worlds.withOneThing(0007);
        int before = NONE;
        for (int rights : new int[] {0, 7, NONE, NONE, 7, 0, NONE, 1, 2, 3, 4, 5, 6}) {
            Check.is("from " + before + " to " + rights, x.entry(OWNER, 0, false, 2, rights, true), before);
            for (int right : Worlds.RIGHTS) {
                boolean isAllowed = rights == NONE || (rights & right) != 0;
                Check.is("for " + right, Worlds.verdict(x, STRANGER, 0, right), isAllowed ? 0 : 1);
            }
            before = rights;
        }
        Edges.refusedBeyond("rights", -1, 7, n -> x.entry(OWNER, 0, false, 2, n, true));
        Check.is("what was refused changed nothing", Worlds.entryOf(x, 0, false, 2), 6);
    }

    private static void entryBefore() {
        AuditgateReeve x = Worlds.withOneThing(0);
        Check.is("none, away", x.entry(OWNER, 0, true, 0, NONE, false), NONE);
        Check.is("none, with no rights", x.entry(OWNER, 0, true, 0, 0, false), NONE);
        Check.is("no rights, away", x.entry(OWNER, 0, true, 0, NONE, false), 0);
        Check.is("none, with all", x.entry(OWNER, 0, true, 0, 7, true), NONE);
        Check.is("all, with all", x.entry(OWNER, 0, true, 0, 7, false), 7);
        Check.is("handed down no more", Worlds.entryOf(x, x.thing(0, 1, 0, 0), true, 0), NONE);
        Check.is("all, with all again", x.entry(OWNER, 0, true, 0, 7, true), 7);
        Check.is("handed down again", Worlds.entryOf(x, x.thing(0, 1, 0, 0), true, 0), 7);
        Check.is("what is handed down stays", x.entry(OWNER, 0, true, 0, 0, true), 7);
        Check.is("one of no rights is handed down too", Worlds.entryOf(x, x.thing(0, 1, 0, 0), true, 0), 0);
    }

    private static void fiveOthers() {
        AuditgateReeve x = Worlds.withOneThing(0);
        for (int who = 0; who < 5; who++) {
            x.entry(OWNER, 0, who < 2, who, who, false);
        }
        for (int who = 0; who < 5; who++) {
            Check.is("four others, one changed", x.entry(OWNER, 0, who < 2, who, 7 - who, true), who);
        }
        Check.badState("five others, a new one", () -> x.entry(OWNER, 0, false, 5, 0, false));
        Check.is("five others, none taken away", x.entry(OWNER, 0, false, 5, NONE, false), NONE);
        Check.is("four others, one taken away", x.entry(OWNER, 0, false, 4, NONE, false), 3);
        Check.is("four others, a new one", x.entry(OWNER, 0, false, 5, 0, false), NONE);
        Check.badState("five others, the old one", () -> x.entry(OWNER, 0, false, 4, 0, false));
    }

    private static void ownerBefore() {
        AuditgateReeve x = Worlds.withOneThing(0700);
        int before = 1;
        for (int owner : new int[] {0, 5, 5, 0, 1}) {
            Check.is("from " + before + " to " + owner, x.give(MASTER, 0, owner), before);
            Check.is("to user 1", Worlds.verdict(x, OWNER, 0, LOOK), owner == 1 ? 0 : 1);
            before = owner;
        }
    }

    private static void levels() {
        AuditgateReeve x = Worlds.withOneThing(0777);
        int before = 0;
        for (int level : new int[] {0, 3, 3, 0, 1, 2}) {
            Check.is("from " + before + " to " + level, x.label(MASTER, 0, level, 0), 10 * before);
            Check.is("to look from below", Worlds.verdict(x, STRANGER, 0, LOOK), level == 0 ? 0 : 2);
            before = level;
        }
    }

    private static void categories() {
        AuditgateReeve x = Worlds.withOneThing(0777);
        int before = 0;
        for (int set : new int[] {0, 7, 7, 0, 1, 2, 3, 4, 5, 6}) {
            Check.is("from " + before + " to " + set, x.label(MASTER, 0, 0, set), before);
            Check.is("to look without any", Worlds.verdict(x, STRANGER, 0, LOOK), set == 0 ? 0 : 2);
            before = set;
        }
    }

    private static void labelBefore() {
        AuditgateReeve x = Worlds.withOneThing(0777);
        Check.is("of the least to the most", x.label(MASTER, 0, 3, 7), 0);
        Check.is("of the most to the most categories", x.label(MASTER, 0, 0, 7), 37);
        Check.is("of the most categories to the most level", x.label(MASTER, 0, 3, 0), 7);
        Check.is("of the most level to the least", x.label(MASTER, 0, 0, 0), 30);
        Check.is("of the least", x.label(MASTER, 0, 0, 0), 0);
    }
}
