/** Promises 11 to 16. */
public final class RulesAndProcessesTest {
    private static final int NONE = AuditgateReeve.NONE;

    private RulesAndProcessesTest() {
    }

    public static void main(String[] args) {
        promise11();
        promise12();
        promise13();
        promise14();
        promise15();
        promise16();
        Check.end();
    }

    private static void promise11() {
        AuditgateReeve x = new AuditgateReeve();
        for (int cell = 0; cell < 16; cell++) {
            Check.is("rule of " + cell, x.rule(cell / 4, cell % 4, cell % 7 + 1), 0);
        }
        Check.outOfRange("type 4", () -> x.rule(0, 4, 0));
        Check.outOfRange("type -1", () -> x.rule(0, -1, 0));
        Check.outOfRange("rights 8", () -> x.rule(0, 0, 8));
        Check.outOfRange("rights -1", () -> x.rule(0, 0, -1));
        Check.noSuchOne("domain 4", () -> x.rule(4, 4, 0));
        Check.noSuchOne("domain -1", () -> x.rule(-1, 0, 8));
        for (int cell = 0; cell < 16; cell++) {
            Check.is("rule kept of " + cell, x.rule(cell / 4, cell % 4, 0), cell % 7 + 1);
            Check.is("rule after it of " + cell, x.rule(cell / 4, cell % 4, 0), 0);
        }
    }

    private static void promise12() {
        AuditgateReeve x = new AuditgateReeve();
        for (int cell = 0; cell < 16; cell++) {
            Check.is("move of " + cell, x.move(cell / 4, cell % 4, cell / 3 % 4), NONE);
        }
        Check.noSuchOne("domain 4", () -> x.move(4, 0, 0));
        Check.noSuchOne("domain -1", () -> x.move(-1, 4, NONE));
        Check.noSuchOne("to 4", () -> x.move(0, 0, 4));
        Check.noSuchOne("to -2", () -> x.move(0, 4, -2));
        Check.outOfRange("type 4", () -> x.move(0, 4, 0));
        Check.outOfRange("type -1", () -> x.move(0, -1, NONE));
        for (int cell = 0; cell < 16; cell++) {
            Check.is("move kept of " + cell, x.move(cell / 4, cell % 4, NONE), cell / 3 % 4);
            Check.is("no move of " + cell, x.move(cell / 4, cell % 4, NONE), NONE);
        }
    }

    private static void promise13() {
        AuditgateReeve x = new AuditgateReeve();
        Check.is("the first process", x.process(5, 3, 3, 7, 7, 7), 0);
        Check.is("the second", x.process(0, 0, 0, 0, 0, 0), 1);
        Check.is("bounds beyond the fine rights", x.process(0, 0, 0, 0, 2, 6), 2);
        Check.noSuchOne("user 6", () -> x.process(6, 0, 4, 0, 0, 0));
        Check.noSuchOne("user -1", () -> x.process(-1, 0, 0, 0, 0, 0));
        Check.noSuchOne("domain 4", () -> x.process(0, 4, 0, 8, 0, 0));
        Check.noSuchOne("domain -1", () -> x.process(0, -1, 0, 0, 0, 0));
        int[][] wrong = {{4, 0, 0, 0}, {-1, 0, 0, 0}, {0, 8, 0, 0}, {0, -1, 0, 0}, {0, 0, 8, 7}, {0, 0, -1, 7},
            {0, 0, 0, 8}, {0, 0, 0, -1}, {0, 0, 8, 8}, {0, 0, 1, 0}, {0, 0, 5, 6}, {0, 0, 7, 3}};
        for (int[] w : wrong) {
            Check.outOfRange("row " + w[0] + w[1] + w[2] + w[3], () -> x.process(0, 0, w[0], w[1], w[2], w[3]));
        }
        for (int i = 3; i < 8; i++) {
            Check.is("process " + i, x.process(i % 6, i % 4, 1, 1, 0, 0), i);
        }
        Check.badState("a ninth", () -> x.process(0, 0, 0, 0, 0, 0));
        Check.outOfRange("a ninth beyond its bounds", () -> x.process(0, 0, 0, 0, 1, 0));
        Check.noSuchOne("a ninth of no user", () -> x.process(6, 0, 0, 0, 0, 0));
        Check.noSuchOne("there is no process 8", () -> x.about(8, 0));
        Check.is("process 7 is there", x.about(7, 0), 1);
    }

    private static void promise14() {
        AuditgateReeve x = new AuditgateReeve();
        x.process(0, 0, 0, 0, 0, 0);
        x.process(0, 0, 0, 0, 0, 0);
        Check.is("the first filter", x.filter(0, 6), 6);
        Check.is("the second", x.filter(0, 3), 2);
        Check.outOfRange("rights 8", () -> x.filter(0, 8));
        Check.outOfRange("rights -1", () -> x.filter(0, -1));
        Check.is("the third", x.filter(0, 7), 2);
        Check.badState("a fourth", () -> x.filter(0, 0));
        Check.outOfRange("a fourth of rights 8", () -> x.filter(0, 8));
        Check.noSuchOne("process 2", () -> x.filter(2, 8));
        Check.noSuchOne("process -1", () -> x.filter(-1, 0));
        Check.is("all let pass", x.about(0, 6), 2);
        Check.is("another one's", x.filter(1, 0), 0);
        Check.is("nothing more after none", x.filter(1, 7), 0);
    }

    private static void promise15() {
        AuditgateReeve x = new AuditgateReeve();
        x.process(0, 0, 0, 0, 5, 7);
        Check.is("two out of the bounds", x.bound(0, 3), 4);
        Check.is("and from it", x.about(0, 4), 4);
        Check.is("the bounds that are left", x.about(0, 5), 4);
        Check.is("none out", x.bound(0, 0), 4);
        Check.is("some that are not there", x.bound(0, 3), 4);
        Check.outOfRange("fine 8", () -> x.bound(0, 8));
        Check.outOfRange("fine -1", () -> x.bound(0, -1));
        Check.noSuchOne("process 1", () -> x.bound(1, 8));
        Check.noSuchOne("process -1", () -> x.bound(-1, 0));
        Check.is("nothing changed", x.about(0, 4), 4);
        Check.is("the last out", x.bound(0, 7), 0);
        Check.is("without fine rights", x.about(0, 4), 0);
    }

    private static void promise16() {
        AuditgateReeve x = new AuditgateReeve();
        x.process(5, 3, 2, 6, 1, 5);
        int[] due = {5, 3, 2, 6, 1, 5, 7};
        for (int what = 0; what < 7; what++) {
            Check.is("about(0, " + what + ")", x.about(0, what), due[what]);
        }
        x.filter(0, 4);
        Check.is("about(0, 6) with a filter", x.about(0, 6), 4);
        Check.outOfRange("what 7", () -> x.about(0, 7));
        Check.outOfRange("what -1", () -> x.about(0, -1));
        Check.noSuchOne("process 1", () -> x.about(1, 7));
        Check.noSuchOne("process -1", () -> x.about(-1, 0));
    }
}
