/** Promises 4 to 10. */
public final class ThingsTest {
    private static final int NONE = AuditgateReeve.NONE;

    private ThingsTest() {
    }

    public static void main(String[] args) {
        promise4();
        promise4HandedDown();
        promise5();
        promise6();
        promise7();
        promise8();
        promise8FiveEntries();
        promise9();
        promise10();
        Check.end();
    }

    /** Thing 0 of user 1; process 0 of user 1, 1 of user 2, 2 of user 3 that may change what is not its own. */
    private static AuditgateReeve withOneThing(int mode) {
        AuditgateReeve x = new AuditgateReeve();
        for (int cell = 0; cell < 16; cell++) {
            x.rule(cell / 4, cell % 4, 7);
        }
        x.thing(NONE, 1, 0, mode);
        x.process(1, 0, 0, 0, 0, 0);
        x.process(2, 0, 0, 0, 5, 7);
        x.process(3, 0, 0, 0, 2, 2);
        return x;
    }

    private static void promise4() {
        AuditgateReeve x = withOneThing(0);
        Check.is("the second thing", x.thing(NONE, 5, 5, 1023), 1);
        Check.is("a thing in one", x.thing(1, 0, 0, 0), 2);
        Check.is("its type", x.type(2, 0), 0);
        x.process(0, 0, 3, 7, 4, 4);
        Check.is("its label", x.label(3, 2, 0, 0), 0);
        Check.is("its mode", x.mode(2, 1, 0), 1023);
        Check.is("its mask", x.mask(2, 1, 7), 7);
        Check.is("its owner", x.give(2, 1, 5), 5);
        Check.noSuchOne("owner 6", () -> x.thing(NONE, 6, 0, 0));
        Check.noSuchOne("group -1", () -> x.thing(NONE, 0, -1, 0));
        Check.noSuchOne("in 3", () -> x.thing(3, 0, 0, 0));
        Check.noSuchOne("in -2", () -> x.thing(-2, 0, 0, 0));
        Check.noSuchOne("in -2 ahead of the mode", () -> x.thing(-2, 0, 0, 1024));
        Check.outOfRange("mode 1024", () -> x.thing(NONE, 0, 0, 1024));
        Check.outOfRange("mode -1", () -> x.thing(NONE, 0, 0, -1));
        for (int i = 3; i < 12; i++) {
            Check.is("thing " + i, x.thing(i - 1, 0, 0, 0), i);
        }
        Check.badState("the 13th thing", () -> x.thing(NONE, 0, 0, 0));
        Check.badState("the 13th thing in one", () -> x.thing(11, 0, 0, 0));
        Check.outOfRange("mode ahead of room", () -> x.thing(NONE, 0, 0, 1024));
        Check.noSuchOne("owner ahead of room", () -> x.thing(NONE, 6, 0, 0));
        Check.noSuchOne("there is no thing 12", () -> x.type(12, 0));
    }

    private static void promise4HandedDown() {
        AuditgateReeve x = withOneThing(0);
        x.entry(0, 0, false, 2, 6, true);
        x.entry(0, 0, true, 4, 5, true);
        x.entry(0, 0, false, 4, 3, false);
        x.entry(0, 0, false, 0, 4, true);
        x.mask(0, 0, 1);
        x.thing(0, 1, 0, 0);
        x.thing(1, 1, 0, 0);
        x.thing(NONE, 1, 0, 0);
        for (int thing = 1; thing < 3; thing++) {
            Check.is("the mask is not handed down", x.mask(0, thing, 7), 7);
            Check.is("by the entry handed down", x.verdict(1, thing, 4), 0);
            Check.is("user 0's is handed down", x.entry(0, thing, false, 0, NONE, false), 4);
        }
        x.entry(0, 0, true, 3, 2, true);
        Check.is("things that are there do not get it", x.entry(0, 1, true, 3, NONE, false), NONE);
        Check.is("not in the thing that is in none", x.entry(0, 3, false, 2, NONE, false), NONE);
        Check.is("of a user, into 2", x.entry(0, 2, false, 2, NONE, false), 6);
        Check.is("of a group, into 2", x.entry(0, 2, true, 4, NONE, false), 5);
        Check.is("what is not handed down", x.entry(0, 1, false, 4, NONE, false), NONE);
        Check.is("of a user, in 1, handed down no more", x.entry(0, 1, false, 2, 6, false), 6);
        Check.is("of a group, in 1, taken away", x.entry(0, 1, true, 4, NONE, true), 5);
        x.thing(1, 1, 0, 0);
        Check.is("handed down no more", x.entry(0, 4, false, 2, NONE, false), NONE);
        Check.is("taken away", x.entry(0, 4, true, 4, NONE, false), NONE);
        x.entry(0, 1, true, 4, 1, false);
        x.thing(1, 1, 0, 0);
        Check.is("taken away as handed down, put again as not", x.entry(0, 5, true, 4, NONE, false), NONE);
    }

    private static void promise5() {
        AuditgateReeve x = withOneThing(0777);
        x.rule(0, 2, 1);
        Check.is("type to 2", x.type(0, 2), 0);
        Check.is("its rules count", x.verdict(0, 0, 4), 3);
        Check.is("type to 3", x.type(0, 3), 2);
        Check.outOfRange("type 4", () -> x.type(0, 4));
        Check.outOfRange("type -1", () -> x.type(0, -1));
        Check.noSuchOne("thing 1", () -> x.type(1, 0));
        Check.noSuchOne("thing ahead of type", () -> x.type(-1, 4));
        Check.is("nothing changed", x.type(0, 0), 3);
    }

    private static void promise6() {
        AuditgateReeve x = withOneThing(0777);
        Check.is("by the owner", x.mode(0, 0, 0), 0777);
        Check.is("by one that may change others'", x.mode(2, 0, 1023), 0);
        Check.mayNot("by another", () -> x.mode(1, 0, 1));
        Check.outOfRange("mode 1024", () -> x.mode(0, 0, 1024));
        Check.outOfRange("mode -1 by one who may not", () -> x.mode(1, 0, -1));
        Check.noSuchOne("process 3", () -> x.mode(3, 0, 1024));
        Check.noSuchOne("thing 1", () -> x.mode(1, 1, 1024));
        Check.is("nothing changed", x.mode(0, 0, 7), 1023);
        Check.is("it counts", x.verdict(0, 0, 1), 1);
        Check.is("it counts for others", x.verdict(2, 0, 1), 0);
    }

    private static void promise7() {
        AuditgateReeve x = withOneThing(0);
        x.entry(0, 0, false, 3, 7, false);
        Check.is("by the owner", x.mask(0, 0, 5), 7);
        Check.is("it masks", x.verdict(2, 0, 2), 1);
        Check.is("it lets", x.verdict(2, 0, 4), 0);
        Check.is("by one that may change others'", x.mask(2, 0, 0), 5);
        Check.mayNot("by another", () -> x.mask(1, 0, 1));
        Check.outOfRange("mask 8", () -> x.mask(0, 0, 8));
        Check.outOfRange("mask -1 by one who may not", () -> x.mask(1, 0, -1));
        Check.noSuchOne("process 3", () -> x.mask(3, 0, 8));
        Check.noSuchOne("thing 1", () -> x.mask(1, 1, 8));
        Check.is("nothing changed", x.mask(0, 0, 7), 0);
    }

    private static void promise8() {
        AuditgateReeve x = withOneThing(0);
        Check.is("a new entry", x.entry(0, 0, false, 4, 3, false), NONE);
        Check.is("a group's is another one", x.entry(2, 0, true, 4, 0, false), NONE);
        Check.is("changed", x.entry(0, 0, false, 4, 7, true), 3);
        Check.is("taken away", x.entry(0, 0, false, 4, NONE, true), 7);
        Check.is("taken away again", x.entry(0, 0, false, 4, NONE, true), NONE);
        Check.is("rights 0 is an entry", x.entry(0, 0, true, 4, NONE, false), 0);
        Check.mayNot("by another", () -> x.entry(1, 0, false, 4, 1, false));
        Check.mayNot("by another, to take it away", () -> x.entry(1, 0, false, 4, NONE, false));
        Check.outOfRange("rights 8 by one who may not", () -> x.entry(1, 0, false, 4, 8, false));
        Check.outOfRange("rights -2", () -> x.entry(0, 0, false, 4, -2, false));
        Check.noSuchOne("process -1", () -> x.entry(-1, 0, false, 4, 8, false));
        Check.noSuchOne("thing 1", () -> x.entry(0, 1, false, 4, 8, false));
        Check.noSuchOne("user 6", () -> x.entry(0, 0, false, 6, 8, false));
        Check.noSuchOne("group 6", () -> x.entry(1, 0, true, 6, 1, false));
        Check.noSuchOne("group -1", () -> x.entry(1, 0, true, -1, 1, false));
        Check.is("nothing changed", x.entry(0, 0, false, 4, NONE, false), NONE);
    }

    private static void promise8FiveEntries() {
        AuditgateReeve x = withOneThing(0);
        for (int i = 0; i < 5; i++) {
            Check.is("entry " + i, x.entry(0, 0, i % 2 == 0, i, i, true), NONE);
        }
        Check.badState("a sixth", () -> x.entry(0, 0, false, 0, 7, false));
        Check.mayNot("a sixth by another", () -> x.entry(1, 0, false, 0, 7, false));
        Check.is("a sixth that is taken away", x.entry(0, 0, false, 0, NONE, false), NONE);
        Check.is("one of the five changed", x.entry(0, 0, true, 4, 1, true), 4);
        x.thing(0, 1, 0, 0);
        Check.badState("a sixth beside five handed down", () -> x.entry(0, 1, false, 0, 7, false));
        Check.is("one taken away", x.entry(0, 0, true, 0, NONE, false), 0);
        Check.is("then there is room", x.entry(0, 0, false, 0, 7, false), NONE);
        Check.badState("and none again", () -> x.entry(0, 0, true, 0, 7, false));
        Check.is("what was refused is not there", x.entry(0, 0, true, 0, NONE, false), NONE);
    }

    private static void promise9() {
        AuditgateReeve x = withOneThing(0700);
        Check.is("to the owner, by the owner", x.give(0, 0, 1), 1);
        Check.mayNot("to another, by the owner", () -> x.give(0, 0, 2));
        Check.mayNot("to the owner, by another", () -> x.give(1, 0, 1));
        Check.mayNot("to oneself, by another", () -> x.give(1, 0, 2));
        Check.is("nothing changed", x.give(2, 0, 1), 1);
        Check.is("to another, by one that may", x.give(2, 0, 2), 1);
        Check.is("the new owner's rights", x.verdict(1, 0, 1), 0);
        Check.is("the old owner's rights", x.verdict(0, 0, 1), 1);
        Check.mayNot("the old owner no more", () -> x.mode(0, 0, 0));
        Check.is("the new owner to itself", x.give(1, 0, 2), 2);
        Check.noSuchOne("owner 6", () -> x.give(0, 0, 6));
        Check.noSuchOne("owner -1", () -> x.give(2, 0, -1));
        Check.noSuchOne("thing 1", () -> x.give(2, 1, 0));
        Check.noSuchOne("process 3", () -> x.give(3, 0, 0));
    }

    private static void promise10() {
        AuditgateReeve x = withOneThing(0777);
        int high = x.process(1, 0, 3, 7, 3, 7);
        int labeller = x.process(4, 0, 2, 5, 4, 4);
        Check.mayNot("by the owner, without that fine right", () -> x.label(0, 0, 0, 0));
        Check.mayNot("by the other two fine rights", () -> x.label(high, 0, 0, 0));
        Check.is("as high as its own", x.label(labeller, 0, 2, 5), 0);
        Check.mayNot("a level too high", () -> x.label(labeller, 0, 3, 0));
        Check.mayNot("a category that it has not", () -> x.label(labeller, 0, 0, 2));
        Check.mayNot("a category beside its own", () -> x.label(labeller, 0, 2, 7));
        Check.is("lower", x.label(labeller, 0, 1, 4), 25);
        Check.is("the level counts", x.verdict(0, 0, 1), 2);
        Check.outOfRange("level 4", () -> x.label(labeller, 0, 4, 0));
        Check.outOfRange("level -1", () -> x.label(0, 0, -1, 0));
        Check.outOfRange("categories 8", () -> x.label(0, 0, 0, 8));
        Check.outOfRange("categories -1", () -> x.label(labeller, 0, 0, -1));
        Check.noSuchOne("process 5", () -> x.label(5, 0, 4, 0));
        Check.noSuchOne("thing 1", () -> x.label(0, 1, 4, 0));
        Check.is("nothing changed", x.label(labeller, 0, 0, 0), 14);
        int highest = x.process(4, 0, 3, 7, 4, 4);
        x.label(highest, 0, 3, 7);
        Check.is("a label above its own may be lowered", x.label(labeller, 0, 0, 1), 37);
    }
}
