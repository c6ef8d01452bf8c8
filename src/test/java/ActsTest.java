/** Promises 17 to 22. */
public final class ActsTest {
    private static final int NONE = AuditgateReeve.NONE;
    private static final int LOOK = AuditgateReeve.LOOK;
    private static final int CHANGE = AuditgateReeve.CHANGE;
    private static final int RUN = AuditgateReeve.RUN;

    private ActsTest() {
    }

    public static void main(String[] args) {
        promise17();
        promise17Runs();
        promise17RunsNothing();
        promise18();
        promise18Verdicts();
        promise19();
        promise19Things();
        promise20();
        promise21();
        promise22();
        Check.end();
    }

    private static AuditgateReeve withRules() {
        AuditgateReeve x = new AuditgateReeve();
        for (int cell = 0; cell < 16; cell++) {
            x.rule(cell / 4, cell % 4, 7);
        }
        return x;
    }

    private static void promise17() {
        AuditgateReeve x = withRules();
        x.thing(NONE, 1, 0, 0704);
        x.process(2, 0, 0, 0, 0, 0);
        x.process(1, 0, 0, 0, 0, 0);
        Check.is("allowed to others", x.act(0, 0, RUN), 0);
        Check.is("not allowed to others", x.act(0, 0, LOOK), 1);
        Check.is("allowed to the owner", x.act(1, 0, CHANGE), 0);
        int[][] due = {{0, 0, 0, RUN, 0}, {0, 0, 0, LOOK, 1}, {0, 1, 0, CHANGE, 0}};
        Check.is("entries()", x.entries(), 3);
        for (int i = 0; i < 15; i++) {
            Check.is("logged " + i, x.logged(i / 5, i % 5), due[i / 5][i % 5]);
        }
        for (int right : new int[] {0, 3, 5, 6, 7, 8, -1, 16, Integer.MIN_VALUE}) {
            Check.outOfRange("right " + right, () -> x.act(0, 0, right));
        }
        Check.noSuchOne("process 2", () -> x.act(2, 0, 3));
        Check.noSuchOne("process -1", () -> x.act(-1, 0, 1));
        Check.noSuchOne("thing 1", () -> x.act(0, 1, 3));
        Check.noSuchOne("thing -1", () -> x.act(0, -1, 1));
        Check.is("what throws is not logged", x.entries(), 3);
    }

    private static void promise17Runs() {
        AuditgateReeve x = withRules();
        int plain = x.thing(NONE, 3, 0, 0777);
        int byRoot = x.thing(NONE, 0, 0, 01777);
        int byUser = x.thing(NONE, 4, 0, 01777);
        int closed = x.thing(NONE, 4, 0, 01077);
        x.type(plain, 1);
        x.move(0, 1, 2);
        x.move(2, 0, 3);
        x.process(1, 0, 2, 5, 1, 7);
        x.filter(0, 6);
        Check.is("to look runs nothing", x.act(0, plain, LOOK), 4);
        Check.is("to change runs nothing", x.act(0, byRoot, CHANGE), 2);
        Check.is("nor goes anywhere", x.about(0, 1) * 10 + x.about(0, 0), 1);
        Check.is("run without bit 9", x.act(0, plain, RUN), 0);
        whole("after a move", x, 1, 2, 1);
        Check.is("run of user 0", x.act(0, byRoot, RUN), 0);
        whole("after user 0's", x, 0, 3, 7);
        Check.is("run without a move", x.act(0, byUser, RUN), 0);
        whole("after user 4's", x, 4, 3, 0);
        Check.is("not allowed to run", x.act(0, closed, RUN), 1);
        whole("after no run", x, 4, 3, 0);
        x.bound(0, 5);
        x.act(0, byRoot, RUN);
        Check.is("no more than the bounds that are left", x.about(0, 4), 2);
        x.act(0, byRoot, RUN);
        Check.is("user 0 again", x.about(0, 4), 2);
        int two = x.process(4, 0, 0, 0, 3, 3);
        x.act(two, byUser, RUN);
        Check.is("one's own with bit 9 takes the fine rights too", x.about(two, 4), 0);
    }

    private static void promise17RunsNothing() {
        AuditgateReeve x = withRules();
        x.thing(NONE, 5, 0, 01703);
        x.move(1, 0, 2);
        x.process(1, 1, 0, 0, 0, 0);
        Check.is("allowed to look", x.act(0, 0, LOOK), 0);
        Check.is("allowed to change", x.act(0, 0, CHANGE), 0);
        Check.is("refused to run", x.act(0, 0, RUN), 1);
        Check.is("the user stays", x.about(0, 0), 1);
        Check.is("the domain stays", x.about(0, 1), 1);
        Check.is("all are logged", x.entries(), 3);
    }

    private static void whole(String when, AuditgateReeve x, int user, int domain, int fine) {
        int[] due = {user, domain, 2, 5, fine, 7, 6};
        for (int what = 0; what < due.length; what++) {
            Check.is(when + " about(0, " + what + ")", x.about(0, what), due[what]);
        }
    }

    private static void promise18() {
        AuditgateReeve x = withRules();
        x.thing(NONE, 1, 0, 01700);
        x.thing(NONE, 1, 0, 0);
        x.process(1, 0, 0, 0, 0, 0);
        x.process(2, 0, 0, 0, 0, 0);
        x.token(0, 0, 7, 10);
        x.narrow(0, 0, 5, 10, 1);
        Check.is("by its user", x.actBy(1, 1, LOOK), 0);
        Check.is("a right that is not in it", x.actBy(1, 1, CHANGE), 5);
        Check.is("to run", x.actBy(1, 1, RUN), 0);
        Check.is("runs nothing", x.about(1, 0), 2);
        Check.is("without the token", x.act(1, 0, RUN), 1);
        int[] due = {0, 1, 0, CHANGE, 5};
        for (int what = 0; what < 5; what++) {
            Check.is("logged(1, " + what + ")", x.logged(1, what), due[what]);
        }
        Check.mayNot("who does not hold it", () -> x.actBy(0, 1, LOOK));
        Check.mayNot("who got it narrowed", () -> x.actBy(1, 0, LOOK));
        Check.outOfRange("right 3 by one who does not hold it", () -> x.actBy(0, 1, 3));
        Check.outOfRange("right 0", () -> x.actBy(1, 1, 0));
        Check.noSuchOne("token 2", () -> x.actBy(0, 2, 3));
        Check.noSuchOne("token -1", () -> x.actBy(0, -1, 1));
        Check.noSuchOne("process 2", () -> x.actBy(2, 0, 3));
        Check.is("what throws is not logged", x.entries(), 4);
        x.pass(10);
        Check.is("until its moment, with it", x.actBy(1, 1, LOOK), 0);
        x.pass(1);
        Check.is("over", x.actBy(1, 1, LOOK), 5);
        Check.is("the moment is logged", x.logged(5, 0), 11);
    }

    private static void promise18Verdicts() {
        AuditgateReeve x = withRules();
        x.thing(NONE, 1, 0, 0700);
        x.process(1, 2, 0, 0, 0, 0);
        x.process(2, 0, 0, 0, 1, 1);
        x.token(0, 0, 7, 10);
        x.narrow(0, 0, 7, 10, 1);
        x.narrow(1, 1, 7, 10, 0);
        x.thing(NONE, 1, 0, 01700);
        int labeller = x.process(0, 0, 3, 7, 4, 4);
        x.rule(2, 0, 1);
        Check.is("the domain that it keeps", x.actBy(1, 1, CHANGE), 3);
        Check.is("narrowed twice it still keeps it", x.actBy(0, 2, CHANGE), 3);
        Check.is("the rules of that domain", x.actBy(1, 1, LOOK), 0);
        x.filter(1, 6);
        Check.is("the filters of the process that acts", x.actBy(1, 1, LOOK), 4);
        Check.is("not those of the one that made it", x.actBy(0, 0, LOOK), 0);
        x.label(labeller, 0, 1, 0);
        Check.is("the level of the process that acts", x.actBy(1, 1, LOOK), 2);
        int high = x.process(5, 1, 3, 7, 0, 0);
        x.narrow(0, 0, 7, 10, high);
        Check.is("of one that is higher", x.actBy(high, 3, LOOK), 0);
        x.label(labeller, 0, 0, 0);
        x.mode(0, 0, 0077);
        Check.is("modes and entries for its user", x.actBy(high, 3, LOOK), 1);
        Check.is("without fine rights", x.actBy(1, 1, LOOK), 1);
        x.mode(0, 0, 0700);
        x.move(2, 0, 3);
        x.rule(2, 0, 7);
        x.act(0, 0, RUN);
        Check.is("the maker went to another domain", x.about(0, 1), 3);
        x.rule(3, 0, 0);
        Check.is("it keeps the domain of the beginning", x.actBy(high, 3, LOOK), 0);
        x.takeBack(0, 0);
        Check.is("what it was narrowed from is taken back", x.actBy(high, 3, LOOK), 5);
        Check.is("by way of another", x.actBy(0, 2, LOOK), 5);
        Check.is("itself", x.actBy(0, 0, LOOK), 5);
    }

    private static void promise19() {
        AuditgateReeve x = withRules();
        x.thing(NONE, 1, 0, 0);
        x.process(2, 0, 0, 0, 0, 0);
        x.process(2, 0, 0, 0, 0, 0);
        Check.is("the first", x.token(0, 0, 1, 0), 0);
        Check.is("the second", x.token(1, 0, 7, 10000), 1);
        Check.is("its maker holds it", x.actBy(1, 1, LOOK), 1);
        Check.mayNot("another does not", () -> x.actBy(0, 1, LOOK));
        Check.outOfRange("rights 0", () -> x.token(0, 0, 0, 0));
        Check.outOfRange("rights 8", () -> x.token(0, 0, 8, 0));
        Check.outOfRange("until -1", () -> x.token(0, 0, 1, -1));
        Check.outOfRange("until 10001", () -> x.token(0, 0, 1, 10001));
        Check.noSuchOne("process 2", () -> x.token(2, 0, 0, 0));
        Check.noSuchOne("thing 1", () -> x.token(0, 1, 0, 0));
        x.pass(5);
        Check.outOfRange("until before now", () -> x.token(0, 0, 1, 4));
        Check.is("until now", x.token(0, 0, 1, 5), 2);
        x.takeBack(0, 2);
        for (int i = 3; i < 10; i++) {
            Check.is("token " + i, x.token(0, 0, 1, 5), i);
        }
        Check.badState("an eleventh", () -> x.token(0, 0, 1, 5));
        Check.outOfRange("an eleventh of rights 0", () -> x.token(0, 0, 0, 5));
        Check.noSuchOne("an eleventh of no process", () -> x.token(-1, 0, 1, 5));
        Check.noSuchOne("there is no token 10", () -> x.actBy(0, 10, 1));
    }

    private static void promise19Things() {
        AuditgateReeve x = withRules();
        x.thing(NONE, 1, 0, 0);
        x.thing(NONE, 1, 0, 0700);
        x.process(1, 0, 0, 0, 0, 0);
        x.process(2, 0, 0, 0, 0, 0);
        x.token(0, 0, 7, 9);
        x.token(0, 1, 7, 9);
        x.narrow(0, 1, 7, 9, 1);
        Check.is("for the first thing", x.actBy(0, 0, LOOK), 1);
        Check.is("for the second", x.actBy(0, 1, LOOK), 0);
        Check.is("narrowed, for the second", x.actBy(1, 2, LOOK), 0);
        for (int entry = 0; entry < 3; entry++) {
            Check.is("the thing is logged, " + entry, x.logged(entry, 2), entry == 0 ? 0 : 1);
        }
        x.takeBack(0, 0);
        Check.is("a made one is from no other", x.actBy(0, 1, LOOK), 0);
    }

    private static void promise20() {
        AuditgateReeve x = withRules();
        x.thing(NONE, 1, 0, 0700);
        x.thing(NONE, 2, 0, 0000);
        x.process(1, 0, 0, 0, 0, 0);
        x.process(2, 0, 0, 0, 0, 0);
        x.process(3, 0, 0, 0, 0, 0);
        x.token(0, 0, 5, 20);
        Check.is("for another", x.narrow(0, 0, 5, 20, 1), 1);
        Check.is("for itself", x.narrow(0, 0, 4, 3, 0), 2);
        Check.is("handed on", x.narrow(1, 1, 1, 20, 2), 3);
        Check.is("of the same thing and user", x.actBy(2, 3, LOOK), 0);
        Check.is("with its rights alone", x.actBy(2, 3, RUN), 5);
        Check.is("the one it came from has all", x.actBy(1, 1, RUN), 0);
        Check.outOfRange("rights beyond", () -> x.narrow(0, 0, 2, 3, 0));
        Check.outOfRange("rights partly beyond", () -> x.narrow(0, 0, 3, 3, 0));
        Check.outOfRange("rights 0", () -> x.narrow(0, 0, 0, 3, 0));
        Check.outOfRange("rights 8", () -> x.narrow(0, 0, 8, 3, 0));
        Check.outOfRange("until beyond, by one who does not hold it", () -> x.narrow(1, 0, 1, 21, 0));
        Check.outOfRange("until 10001", () -> x.narrow(0, 0, 1, 10001, 0));
        Check.outOfRange("until -1", () -> x.narrow(0, 0, 1, -1, 0));
        Check.noSuchOne("process 3", () -> x.narrow(3, 0, 0, 3, 0));
        Check.noSuchOne("token 4", () -> x.narrow(0, 4, 0, 3, 0));
        Check.noSuchOne("other 3", () -> x.narrow(0, 0, 0, 3, 3));
        Check.noSuchOne("other -1", () -> x.narrow(1, 0, 1, 3, -1));
        Check.mayNot("who does not hold it", () -> x.narrow(1, 0, 1, 3, 1));
        x.pass(4);
        Check.outOfRange("until before now", () -> x.narrow(0, 0, 1, 3, 0));
        Check.outOfRange("one that is over", () -> x.narrow(0, 2, 4, 4, 0));
        Check.is("who narrows it is its maker", x.takeBack(1, 3), true);
        Check.is("one taken back can be narrowed, for nothing", x.narrow(2, 3, 1, 9, 0), 4);
        Check.is("which lets nothing", x.actBy(0, 4, LOOK), 5);
        for (int i = 5; i < 10; i++) {
            Check.is("token " + i, x.narrow(0, 0, 1, 20, 2), i);
        }
        Check.badState("an eleventh", () -> x.narrow(0, 0, 1, 20, 2));
        Check.mayNot("an eleventh by one who does not hold it", () -> x.narrow(1, 0, 1, 20, 2));
        Check.outOfRange("an eleventh beyond", () -> x.narrow(0, 0, 2, 20, 2));
    }

    private static void promise21() {
        AuditgateReeve x = withRules();
        x.thing(NONE, 1, 0, 0700);
        x.process(1, 0, 0, 0, 0, 0);
        x.process(2, 0, 0, 0, 0, 0);
        x.token(0, 0, 7, 20);
        x.narrow(0, 0, 7, 10, 1);
        x.narrow(1, 1, 7, 10, 0);
        x.token(1, 0, 7, 6);
        Check.mayNot("who holds it is not its maker", () -> truth(x.takeBack(1, 1)));
        Check.mayNot("who made the one it is from is not its maker", () -> truth(x.takeBack(0, 2)));
        Check.noSuchOne("token 4", () -> truth(x.takeBack(0, 4)));
        Check.noSuchOne("token -1", () -> truth(x.takeBack(0, -1)));
        Check.noSuchOne("process 2", () -> truth(x.takeBack(2, 0)));
        Check.is("still there after what throws", x.actBy(0, 2, LOOK), 0);
        x.pass(6);
        Check.is("in its last moment", x.takeBack(1, 3), true);
        Check.is("there still", x.takeBack(0, 1), true);
        Check.is("taken back already", x.takeBack(0, 1), false);
        Check.is("narrowed from one that is taken back", x.takeBack(1, 2), false);
        Check.is("the one ahead of it is there", x.actBy(0, 0, LOOK), 0);
        x.pass(15);
        Check.is("over", x.takeBack(0, 0), false);
    }

    private static void promise22() {
        AuditgateReeve x = new AuditgateReeve();
        Check.is("pass(1)", x.pass(1), 1);
        Check.is("pass(1000)", x.pass(1000), 1001);
        Check.outOfRange("pass(0)", () -> x.pass(0));
        Check.outOfRange("pass(-1)", () -> x.pass(-1));
        Check.outOfRange("pass(1001)", () -> x.pass(1001));
        Check.outOfRange("pass(MAX)", () -> x.pass(Integer.MAX_VALUE));
        for (int i = 2; i < 10; i++) {
            Check.is("pass(1000) again", x.pass(1000), i * 1000 + 1);
        }
        Check.badState("above 10000", () -> x.pass(1000));
        Check.outOfRange("out of range ahead of that", () -> x.pass(1001));
        Check.is("to 10000", x.pass(999), 10000);
        Check.badState("above 10000 by one", () -> x.pass(1));
    }

    private static long truth(boolean is) {
        return is ? 1 : 0;
    }
}
