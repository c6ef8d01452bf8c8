/** Objects that the tests of the document's sentences begin with. */
final class Worlds {
    static final int NONE = AuditgateReeve.NONE;
    static final int LOOK = AuditgateReeve.LOOK;
    static final int CHANGE = AuditgateReeve.CHANGE;
    static final int RUN = AuditgateReeve.RUN;
    static final int ALL = 7;
    static final int[] RIGHTS = {LOOK, CHANGE, RUN};

    /** The processes of withOneThing(). */
    static final int OWNER = 0, STRANGER = 1, MASTER = 2;

    private Worlds() {
    }

    /** Every domain has every right on every type. */
    static AuditgateReeve withRules() {
        AuditgateReeve x = new AuditgateReeve();
        for (int cell = 0; cell < 16; cell++) {
            x.rule(cell / 4, cell % 4, ALL);
        }
        return x;
    }

    /**
     * Besides the rules thing 0 of user 1 and group 0; process OWNER of user 1, STRANGER of user 2, both without fine
     * rights, and MASTER of user 3 with all of them and the highest label.
     */
    static AuditgateReeve withOneThing(int mode) {
        AuditgateReeve x = withRules();
        x.thing(NONE, 1, 0, mode);
        x.process(1, 0, 0, 0, 0, 0);
        x.process(2, 0, 0, 0, 0, 0);
        x.process(3, 0, 3, 7, 7, 7);
        return x;
    }

    /** Both tellings of the verdict, as one answer: NONE, if they are not the same. */
    static int verdict(AuditgateReeve x, int process, int thing, int right) {
        int told = x.verdict(process, thing, right);
        return told == x.verdictAnew(process, thing, right) ? told : NONE;
    }

    /** Likewise of reach; here -2, as NONE is an answer. */
    static int reach(AuditgateReeve x, int process, int thing, int right) {
        int told = x.reach(process, thing, right);
        return told == x.reachAnew(process, thing, right) ? told : -2;
    }

    /** Likewise of least. */
    static int least(AuditgateReeve x, int user, int thing, int right) {
        int told = x.least(user, thing, right);
        return told == x.leastAnew(user, thing, right) ? told : NONE;
    }

    static int entryOf(AuditgateReeve x, int thing, boolean isGroup, int who) {
        return x.entry(MASTER, thing, isGroup, who, NONE, false);
    }
}
