/** Promises 1 to 3. */
public final class NewAndGroupsTest {
    private NewAndGroupsTest() {
    }

    public static void main(String[] args) {
        promise1();
        promise2();
        promise2LongChain();
        promise3();
        Check.end();
    }

    private static void promise1() {
        AuditgateReeve x = new AuditgateReeve();
        for (int user = 0; user < 6; user++) {
            Check.is("groups(" + user + ")", x.groups(user), 0);
        }
        Check.is("entries()", x.entries(), 0);
        Check.is("lost()", x.lost(), 0);
        Check.is("broken()", x.broken(), AuditgateReeve.NONE);
        Check.noSuchOne("about of no process", () -> x.about(0, 0));
        Check.noSuchOne("type of no thing", () -> x.type(0, 0));
        Check.noSuchOne("logged of no entry", () -> x.logged(0, 0));
        for (int cell = 0; cell < 16; cell++) {
            Check.is("rule at first", x.rule(cell / 4, cell % 4, 0), 0);
            Check.is("move at first", x.move(cell / 4, cell % 4, AuditgateReeve.NONE), AuditgateReeve.NONE);
        }
        AuditgateReeve other = new AuditgateReeve();
        x.member(0, false, 0, true);
        Check.is("groups(0) of another object", other.groups(0), 0);
    }

    private static void promise2() {
        AuditgateReeve x = new AuditgateReeve();
        Check.is("a new member", x.member(2, false, 5, true), false);
        Check.is("a member again", x.member(2, false, 5, true), true);
        Check.is("no more a member", x.member(2, false, 5, false), true);
        Check.is("no member, taken again", x.member(2, false, 5, false), false);
        Check.is("groups(5)", x.groups(5), 0);
        Check.is("a group as a member", x.member(0, true, 1, true), false);
        Check.is("a user of the same number is none", x.member(0, false, 1, false), false);
        Check.is("a group is still one", x.member(0, true, 1, true), true);
        Check.is("a group in a group in it", x.member(1, true, 2, true), false);
        Check.badState("a group in itself", () -> truth(x.member(3, true, 3, true)));
        Check.badState("a ring of two", () -> truth(x.member(1, true, 0, true)));
        Check.badState("a ring of three", () -> truth(x.member(2, true, 0, true)));
        Check.is("out of itself, where it is not", x.member(3, true, 3, false), false);
        Check.is("out of a ring that would be", x.member(2, true, 0, false), false);
        Check.is("a second way is no ring", x.member(0, true, 2, true), false);
        x.member(2, false, 4, true);
        Check.is("what was refused changed nothing", x.groups(4), 7);
        x.member(0, true, 2, false);
        x.member(1, true, 2, false);
        Check.is("the ring is gone with the member", x.member(2, true, 0, true), false);
        Check.noSuchOne("group 6", () -> truth(x.member(6, false, 0, true)));
        Check.noSuchOne("group -1", () -> truth(x.member(-1, true, 0, true)));
        Check.noSuchOne("user 6", () -> truth(x.member(0, false, 6, true)));
        Check.noSuchOne("user -1", () -> truth(x.member(0, false, -1, false)));
        Check.noSuchOne("group 6 as a member", () -> truth(x.member(0, true, 6, false)));
        Check.noSuchOne("far too high", () -> truth(x.member(Integer.MAX_VALUE, true, Integer.MIN_VALUE, true)));
    }

    private static void promise2LongChain() {
        AuditgateReeve x = new AuditgateReeve();
        // Told from either end, so that no order of going through the groups finds all of it in one round.
        for (int g = 0; g < 5; g++) {
            x.member(g, true, g + 1, true);
        }
        x.member(5, false, 3, true);
        Check.is("groups(3) by a chain upwards", x.groups(3), 63);
        Check.badState("the end of the chain", () -> truth(x.member(5, true, 0, true)));
        AuditgateReeve y = new AuditgateReeve();
        for (int g = 5; g > 0; g--) {
            y.member(g, true, g - 1, true);
        }
        y.member(0, false, 3, true);
        Check.is("groups(3) by a chain downwards", y.groups(3), 63);
        Check.badState("the end of that chain", () -> truth(y.member(0, true, 5, true)));
        y.member(3, true, 2, false);
        Check.is("groups(3) of a broken chain", y.groups(3), 7);
    }

    private static void promise3() {
        AuditgateReeve x = new AuditgateReeve();
        x.member(4, false, 0, true);
        Check.is("groups(0), told", x.groups(0), 16);
        x.member(1, true, 4, true);
        x.member(3, true, 4, true);
        x.member(5, true, 1, true);
        Check.is("groups(0), by way of others", x.groups(0), 58);
        Check.is("groups(4), who shares a number with a group", x.groups(4), 0);
        x.member(5, false, 0, true);
        x.member(5, true, 1, false);
        Check.is("groups(0), told and no more by way of others", x.groups(0), 58);
        x.member(4, false, 0, false);
        Check.is("groups(0), of what is left", x.groups(0), 32);
        Check.noSuchOne("groups(6)", () -> x.groups(6));
        Check.noSuchOne("groups(-1)", () -> x.groups(-1));
    }

    private static long truth(boolean is) {
        return is ? 1 : 0;
    }
}
