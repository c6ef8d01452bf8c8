/** Promises 23 to 28. */
public final class LogTest {
    private static final int NONE = AuditgateReeve.NONE;

    private LogTest() {
    }

    public static void main(String[] args) {
        promise23();
        promises24And25();
        promise26();
        promise27();
        promise28();
        promise28ForgedAndLost();
        Check.end();
    }

    /** Process 0 may do all on thing 0, and on thing 1 nothing. */
    private static AuditgateReeve withTwoThings() {
        AuditgateReeve x = new AuditgateReeve();
        x.rule(0, 0, 7);
        x.thing(NONE, 1, 0, 0700);
        x.thing(NONE, 1, 0, 0);
        x.process(1, 0, 0, 0, 0, 0);
        return x;
    }

    private static void promise23() {
        AuditgateReeve x = withTwoThings();
        for (int allowed = 0; allowed < 8; allowed++) {
            int refused = 7 - allowed;
            x.watch(allowed, refused);
            for (int right = 1; right <= 4; right *= 2) {
                int before = x.entries() + x.lost();
                x.act(0, 0, right);
                Check.is("allowed " + allowed + " of " + right, x.entries() + x.lost() - before,
                    (allowed & right) != 0 ? 1 : 0);
                before = x.entries() + x.lost();
                x.act(0, 1, right);
                Check.is("refused " + refused + " of " + right, x.entries() + x.lost() - before,
                    (refused & right) != 0 ? 1 : 0);
            }
        }
        x.watch(0, 1);
        int before = x.entries() + x.lost();
        x.token(0, 0, 6, 0);
        x.actBy(0, 0, 1);
        x.actBy(0, 0, 2);
        Check.is("what a token does not let is not allowed", x.entries() + x.lost() - before, 1);
        int[][] wrong = {{8, 0}, {-1, 0}, {0, 8}, {0, -1}};
        for (int[] w : wrong) {
            Check.outOfRange("watch " + w[0] + " " + w[1], () -> {
                x.watch(w[0], w[1]);
                return 0;
            });
        }
        before = x.entries() + x.lost();
        x.act(0, 0, 1);
        x.act(0, 1, 1);
        Check.is("what throws changes nothing", x.entries() + x.lost() - before, 1);
    }

    private static void promises24And25() {
        AuditgateReeve x = withTwoThings();
        for (int i = 0; i < 45; i++) {
            Check.is("entries() after " + i, x.entries(), i < 20 ? i : 20);
            Check.is("lost() after " + i, x.lost(), i < 20 ? 0 : i - 20);
            x.act(0, i % 2, 1);
        }
        x.watch(0, 0);
        x.act(0, 0, 1);
        Check.is("entries() at last", x.entries(), 20);
        Check.is("lost() at last", x.lost(), 25);
    }

    private static void promise26() {
        AuditgateReeve x = withTwoThings();
        x.process(2, 0, 0, 0, 0, 0);
        for (int i = 0; i < 30; i++) {
            x.act(i % 2, i % 3 == 0 ? 0 : 1, 1 << i % 3);
            x.pass(i + 1);
        }
        for (int entry = 0; entry < 20; entry++) {
            int i = entry + 10;
            int[] due = {i * (i + 1) / 2, i % 2, i % 3 == 0 ? 0 : 1, 1 << i % 3, i % 3 == 0 && i % 2 == 0 ? 0 : 1};
            for (int what = 0; what < 5; what++) {
                Check.is("logged(" + entry + ", " + what + ")", x.logged(entry, what), due[what]);
            }
        }
        Check.noSuchOne("entry 20", () -> x.logged(20, 5));
        Check.noSuchOne("entry -1", () -> x.logged(-1, 0));
        Check.outOfRange("what 5", () -> x.logged(0, 5));
        Check.outOfRange("what -1", () -> x.logged(19, -1));
        AuditgateReeve y = withTwoThings();
        y.act(0, 0, 1);
        Check.noSuchOne("entry 1 of 1", () -> y.logged(1, 0));
        Check.noSuchOne("entry MAX", () -> y.logged(Integer.MAX_VALUE, 0));
    }

    private static void promise27() {
        AuditgateReeve x = withTwoThings();
        x.act(0, 0, 1);
        x.act(0, 1, 2);
        Check.is("forged to 5", x.forge(1, 5), 1);
        Check.is("the verdict then", x.logged(1, 4), 5);
        Check.is("forged to 0", x.forge(1, 0), 5);
        Check.is("the other one", x.logged(0, 4), 0);
        Check.is("the right stays", x.logged(1, 3), 2);
        Check.outOfRange("verdict 6", () -> x.forge(0, 6));
        Check.outOfRange("verdict -1", () -> x.forge(0, -1));
        Check.noSuchOne("entry 2", () -> x.forge(2, 6));
        Check.noSuchOne("entry -1", () -> x.forge(-1, 0));
        Check.is("nothing changed", x.logged(0, 4), 0);
        Check.is("the first one is right", x.broken(), 1);
    }

    private static void promise28() {
        AuditgateReeve x = withTwoThings();
        Check.is("of none", x.broken(), NONE);
        for (int i = 0; i < 6; i++) {
            x.pass(1000);
            x.act(0, i % 2, 4);
        }
        Check.is("of six", x.broken(), NONE);
        x.forge(4, 3);
        Check.is("the fifth", x.broken(), 4);
        x.forge(2, 3);
        Check.is("the third comes first", x.broken(), 2);
        x.forge(2, 0);
        Check.is("the third is right again", x.broken(), 4);
        x.act(0, 0, 1);
        Check.is("one more comes behind", x.broken(), 4);
        x.forge(4, 0);
        Check.is("all are right again", x.broken(), NONE);
        x.forge(6, 0);
        Check.is("forged to what it is", x.broken(), NONE);
    }

    private static void promise28ForgedAndLost() {
        AuditgateReeve x = withTwoThings();
        for (int i = 0; i < 20; i++) {
            x.act(0, 1, 1);
        }
        x.forge(0, 0);
        x.forge(3, 0);
        Check.is("the first of twenty", x.broken(), 0);
        x.act(0, 1, 1);
        Check.is("it is lost, the next is there", x.broken(), 2);
        x.act(0, 1, 1);
        Check.is("its place goes down", x.broken(), 1);
        x.act(0, 1, 1);
        x.act(0, 1, 1);
        Check.is("all forged ones are lost", x.broken(), NONE);
        for (int i = 0; i < 30; i++) {
            x.act(0, i % 2, 2);
        }
        Check.is("the chain goes on", x.broken(), NONE);
        x.forge(19, 4);
        Check.is("the last of twenty", x.broken(), 19);
    }
}
