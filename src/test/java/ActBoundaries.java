/** The sentences of the promises 11 to 28 that name a boundary; RefusedCalls has those that begin with "Throws". */
final class ActBoundaries {
    private static final int NONE = Worlds.NONE;
    private static final int LOOK = Worlds.LOOK;
    private static final int CHANGE = Worlds.CHANGE;
    private static final int RUN = Worlds.RUN;
    private static final int OWNER = Worlds.OWNER;
    private static final int STRANGER = Worlds.STRANGER;

    private ActBoundaries() {
    }

    static void all() {
        Sentences.under("Promise 11: rule");
        Sentences.holds("- `type`: 0 to 3", ActBoundaries::typesOfRules);
        Sentences.holds("- `rights`: 0 to 7", ActBoundaries::rightsOfRules);
        Sentences.under("Promise 12: move");
        Sentences.holds("- `type`: 0 to 3", ActBoundaries::typesOfMoves);
        Sentences.holds("- `to`: a domain; NONE for no move", ActBoundaries::whereMovesGo);
        Sentences.holds("Returns the domain before; NONE without a move.", ActBoundaries::whereMovesWent);
        processes();
        acts();
        log();
    }

    private static void processes() {
        Sentences.under("Promise 13: process");
        Sentences.holds("- `level`: 0 to 3", () -> ofProcess(2, 3));
        Sentences.holds("- `categories`: 0 to 7", () -> ofProcess(3, 7));
        Sentences.holds("- `fine`: 0 to 7", () -> ofProcess(4, 7));
        Sentences.holds("- `bounds`: 0 to 7, with all of fine", ActBoundaries::boundsWithAllOfFine);
        Sentences.under("Promise 14: filter");
        Sentences.holds("- `rights`: 0 to 7: that it lets pass", ActBoundaries::rightsOfFilters);
        Sentences.holds("Returns the rights that all its filters let pass.", ActBoundaries::allItsFilters);
        Sentences.under("Promise 15: bound");
        Sentences.holds("- `fine`: 0 to 7", ActBoundaries::outOfTheBounds);
        Sentences.holds("Returns the bounds that are left.", ActBoundaries::boundsThatAreLeft);
        Sentences.under("Promise 16: about");
        Sentences.holds("- `what`: 0 user, 1 domain, 2 level, 3 categories, 4 fine rights, 5 bounds, 6 what its "
            + "filters let pass", ActBoundaries::allOfAProcess);
    }

    private static void acts() {
        Sentences.under("Promise 17: act");
        Sentences.holds("- `right`: LOOK, CHANGE or RUN; what is run is run", ActBoundaries::rightsOfActs);
        Sentences.under("Promise 18: actBy");
        Sentences.holds("- `right`: LOOK, CHANGE or RUN", ActBoundaries::rightsOfActsByTokens);
        Sentences.holds("nothing is run by that.", ActBoundaries::nothingIsRun);
        Sentences.under("Promise 19: token");
        Sentences.holds("- `rights`: 1 to 7", ActBoundaries::rightsOfTokens);
        Sentences.holds("- `until`: now to 10000", ActBoundaries::momentsOfTokens);
        Sentences.under("Promise 20: narrow");
        Sentences.holds("- `rights`: 1 to 7", ActBoundaries::rightsOfNarrowedOnes);
        Sentences.holds("- `until`: now to 10000", ActBoundaries::momentsOfNarrowedOnes);
        Sentences.under("Promise 21: takeBack");
        Sentences.holds("Returns whether it was there still: not over, and neither it nor one from which it was "
            + "narrowed taken back.", ActBoundaries::thereStill);
        Sentences.under("Promise 22: pass");
        Sentences.holds("- `moments`: 1 to 1000", ActBoundaries::moments);
        Sentences.holds("if now would be above 10000", ActBoundaries::upTo10000);
    }

    private static void log() {
        Sentences.under("Promise 23: watch");
        Sentences.holds("- `allowed`: 0 to 7", ActBoundaries::watchedAllowed);
        Sentences.holds("- `refused`: 0 to 7", ActBoundaries::watchedRefused);
        Sentences.under("Promise 24: entries");
        Sentences.holds("Returns how many entries the log has.", ActBoundaries::howManyEntries);
        Sentences.under("Promise 25: lost");
        Sentences.holds("Returns how many entries were lost.", ActBoundaries::howManyLost);
        Sentences.under("Promise 26: logged");
        Sentences.holds("- `what`: 0 moment, 1 process, 2 thing, 3 right, 4 verdict", ActBoundaries::allOfAnEntry);
        Sentences.under("Promise 27: forge");
        Sentences.holds("- `verdict`: 0 to 5", ActBoundaries::forgedVerdicts);
        Sentences.under("Promise 28: broken");
        Sentences.holds("Returns its place; NONE if all are.", ActBoundaries::firstBroken);
    }

    private static AuditgateReeve withProcess() {
        return Worlds.withOneThing(0700);
    }

    // ---- rules, processes

    private static void typesOfRules() {
        AuditgateReeve x = new AuditgateReeve();
        for (int type = 0; type <= 3; type++) {
            Check.is("of type " + type, x.rule(3, type, type + 1), 0);
        }
        for (int type = 0; type <= 3; type++) {
            Check.is("of type " + type + " in domain 0", x.rule(0, type, 7), 0);
            Check.is("kept of type " + type, x.rule(3, type, 0), type + 1);
        }
        Edges.refusedBeyond("type", 0, 3, n -> x.rule(0, n, 7));
    }

    private static void rightsOfRules() {
        AuditgateReeve x = new AuditgateReeve();
        int before = 0;
        for (int rights : new int[] {7, 0, 0, 7, 7, 1, 6}) {
            Check.is("from " + before + " to " + rights, x.rule(0, 0, rights), before);
            before = rights;
        }
        Edges.refusedBeyond("rights", 0, 7, n -> x.rule(0, 0, n));
        Check.is("what was refused changed nothing", x.rule(0, 0, 0), 6);
    }

    private static void typesOfMoves() {
        AuditgateReeve x = new AuditgateReeve();
        for (int type = 0; type <= 3; type++) {
            Check.is("of type " + type, x.move(3, type, type), NONE);
        }
        for (int type = 0; type <= 3; type++) {
            Check.is("of type " + type + " in domain 0", x.move(0, type, 3), NONE);
            Check.is("kept of type " + type, x.move(3, type, NONE), type);
        }
        Edges.refusedBeyond("type", 0, 3, n -> x.move(0, n, 0));
        Edges.refusedBeyond("type, for no move", 0, 3, n -> x.move(0, n, NONE));
    }

    private static void whereMovesGo() {
        AuditgateReeve x = Worlds.withOneThing(0777);
        x.move(0, 0, 3);
        x.act(OWNER, 0, RUN);
        Check.is("to the last domain", x.about(OWNER, 1), 3);
        x.move(3, 0, 0);
        x.act(OWNER, 0, RUN);
        Check.is("to the first domain", x.about(OWNER, 1), 0);
        x.move(0, 0, NONE);
        x.act(OWNER, 0, RUN);
        Check.is("no move", x.about(OWNER, 1), 0);
        Edges.noSuchBeyond("to", -1, 3, n -> x.move(0, 0, n));
        Check.is("what was refused changed nothing", x.move(0, 0, NONE), NONE);
    }

    private static void whereMovesWent() {
        AuditgateReeve x = new AuditgateReeve();
        int before = NONE;
        for (int to : new int[] {NONE, 0, 0, NONE, 3, 3, 0, NONE}) {
            Check.is("from " + before + " to " + to, x.move(0, 0, to), before);
            before = to;
        }
    }

    /** A process with the least and with the most of one of its numbers; about() tells that one. */
    private static void ofProcess(int what, int most) {
        for (int number : new int[] {0, most, 1, most - 1}) {
            AuditgateReeve x = new AuditgateReeve();
            int[] numbers = {0, 0, 0, 0, 0, 7};
            numbers[what] = number;
            Check.is("a process", x.process(0, 0, numbers[2], numbers[3], numbers[4], 7), 0);
            for (int i = 0; i < 6; i++) {
                Check.is("about(0, " + i + ")", x.about(0, i), numbers[i]);
            }
        }
    }

    private static void boundsWithAllOfFine() {
        for (int bounds = 0; bounds <= 7; bounds++) {
            AuditgateReeve x = new AuditgateReeve();
            int b = bounds;
            int made = 0;
            for (int fine = 0; fine <= 7; fine++) {
                int f = fine;
                boolean isAllOfIt = (f | b) == b;
                if (made < 8) {
                    Check.is("fine " + f + " in " + b, Check.answerOf(() -> x.process(0, 0, 0, 0, f, b)),
                        isAllOfIt ? Integer.toString(made) : "throws.IllegalArgumentException");
                    made += isAllOfIt ? 1 : 0;
                }
            }
            Check.is("the bounds", x.about(0, 5), b);
        }
    }

    private static void rightsOfFilters() {
        for (int rights = 0; rights <= 7; rights++) {
            AuditgateReeve x = withProcess();
            Check.is("a filter of " + rights, x.filter(OWNER, rights), rights);
            Check.is("about", x.about(OWNER, 6), rights);
            Check.is("about another one", x.about(STRANGER, 6), 7);
        }
    }

    private static void allItsFilters() {
        for (int set = 0; set < 512; set++) {
            AuditgateReeve x = new AuditgateReeve();
            x.process(0, 0, 0, 0, 0, 0);
            int due = 7;
            for (int i = 0; i < 3; i++) {
                int rights = set >> 3 * i & 7;
                due &= rights;
                Check.is("filter " + i + " of " + set, x.filter(0, rights), due);
            }
            Check.badState("a fourth", () -> x.filter(0, 0));
            Check.is("about", x.about(0, 6), due);
        }
    }

    private static void outOfTheBounds() {
        for (int fine = 0; fine <= 7; fine++) {
            AuditgateReeve x = new AuditgateReeve();
            x.process(0, 0, 0, 0, 6, 7);
            Check.is("out " + fine, x.bound(0, fine), 7 - fine);
            Check.is("bounds", x.about(0, 5), 7 - fine);
            Check.is("and from it", x.about(0, 4), 6 & 7 - fine);
            Check.is("nothing to take", x.bound(0, 0), 7 - fine);
        }
    }

    private static void boundsThatAreLeft() {
        AuditgateReeve x = Worlds.withOneThing(0777);
        int process = x.process(4, 0, 0, 0, 0, 7);
        x.thing(NONE, 0, 0, 01777);
        Check.is("one of them out", x.bound(process, 2), 5);
        x.act(process, 1, RUN);
        Check.is("as user 0 all that are left", x.about(process, 4), 5);
        Check.is("all out", x.bound(process, 7), 0);
        Check.is("without fine rights", x.about(process, 4), 0);
        x.act(process, 1, RUN);
        Check.is("as user 0 again none", x.about(process, 4), 0);
        Check.is("none left to take", x.bound(process, 7), 0);
    }

    private static void allOfAProcess() {
        AuditgateReeve x = new AuditgateReeve();
        x.process(0, 0, 0, 0, 0, 0);
        x.process(5, 3, 3, 7, 7, 7);
        int[] least = {0, 0, 0, 0, 0, 0, 0};
        int[] most = {5, 3, 3, 7, 7, 7, 7};
        x.filter(0, 0);
        for (int what = 0; what <= 6; what++) {
            Check.is("the least of " + what, x.about(0, what), least[what]);
            Check.is("the most of " + what, x.about(1, what), most[what]);
        }
        Edges.refusedBeyond("what", 0, 6, n -> x.about(1, n));
    }

    // ---- acts

    private static void rightsOfActs() {
        AuditgateReeve x = Worlds.withOneThing(01777);
        x.move(0, 0, 3);
        for (int right : Worlds.RIGHTS) {
            Check.is("for " + right, x.act(STRANGER, 0, right), 0);
            Check.is("is logged", x.logged(x.entries() - 1, 3), right);
            Check.is("the user then", x.about(STRANGER, 0), right == RUN ? 1 : 2);
            Check.is("the domain then", x.about(STRANGER, 1), right == RUN ? 3 : 0);
        }
        x.mode(OWNER, 0, 01000);
        int other = x.process(2, 0, 0, 0, 0, 0);
        Check.is("refused to run", x.act(other, 0, RUN), 1);
        Check.is("it is not run", x.about(other, 0) * 10 + x.about(other, 1), 20);
        Check.is("that is logged too", x.entries(), 4);
    }

    private static void rightsOfActsByTokens() {
        for (int rights = 1; rights <= 7; rights++) {
            AuditgateReeve x = withProcess();
            x.token(OWNER, 0, rights, 0);
            for (int right : Worlds.RIGHTS) {
                Check.is("of " + rights + " for " + right, x.actBy(OWNER, 0, right), (rights & right) != 0 ? 0 : 5);
                Check.is("the right is logged", x.logged(x.entries() - 1, 3), right);
                Check.is("the verdict is logged", x.logged(x.entries() - 1, 4), (rights & right) != 0 ? 0 : 5);
            }
        }
    }

    private static void nothingIsRun() {
        AuditgateReeve x = Worlds.withOneThing(01777);
        x.move(0, 0, 3);
        x.token(STRANGER, 0, 7, 0);
        Check.is("to run by a token", x.actBy(STRANGER, 0, RUN), 0);
        Check.is("the user", x.about(STRANGER, 0), 2);
        Check.is("the domain", x.about(STRANGER, 1), 0);
    }

    private static void rightsOfTokens() {
        AuditgateReeve x = withProcess();
        for (int rights = 1; rights <= 7; rights++) {
            Check.is("of " + rights, x.token(OWNER, 0, rights, 0), rights - 1);
        }
        Edges.refusedBeyond("rights", 1, 7, n -> x.token(OWNER, 0, n, 0));
        Check.is("what was refused made none", x.token(OWNER, 0, 7, 0), 7);
    }

    private static void momentsOfTokens() {
        AuditgateReeve x = withProcess();
        Check.is("at 0 until 0", x.token(OWNER, 0, 7, 0), 0);
        Check.is("at 0 until 10000", x.token(OWNER, 0, 7, 10000), 1);
        Edges.refusedBeyond("at 0 until", 0, 10000, n -> x.token(OWNER, 0, 7, n));
        x.pass(7);
        Check.is("at 7 until 7", x.token(OWNER, 0, 7, 7), 2);
        Check.is("at 7 by the one until 0", x.actBy(OWNER, 0, LOOK), 5);
        Check.is("at 7 by the one until 7", x.actBy(OWNER, 2, LOOK), 0);
        Edges.refusedBeyond("at 7 until", 7, 10000, n -> x.token(OWNER, 0, 7, n));
        x.pass(993);
        for (int i = 1; i < 10; i++) {
            x.pass(1000);
        }
        Check.is("at 10000 until 10000", x.token(OWNER, 0, 7, 10000), 3);
        Edges.refusedBeyond("at 10000 until", 10000, 10000, n -> x.token(OWNER, 0, 7, n));
        Check.is("at 10000 by the one until 7", x.actBy(OWNER, 2, LOOK), 5);
        Check.is("at 10000 by the first one until then", x.actBy(OWNER, 1, LOOK), 0);
        Check.is("at 10000 by the last one until then", x.actBy(OWNER, 3, LOOK), 0);
    }

    private static void rightsOfNarrowedOnes() {
        AuditgateReeve x = withProcess();
        x.token(OWNER, 0, 7, 0);
        for (int rights = 1; rights <= 7; rights++) {
            Check.is("of " + rights, x.narrow(OWNER, 0, rights, 0, STRANGER), rights);
            for (int right : Worlds.RIGHTS) {
                Check.is("for " + right, x.actBy(STRANGER, rights, right), (rights & right) != 0 ? 0 : 5);
            }
        }
        Edges.refusedBeyond("rights", 1, 7, n -> x.narrow(OWNER, 0, n, 0, STRANGER));
        Check.is("what was refused made none", x.narrow(OWNER, 0, 7, 0, STRANGER), 8);
    }

    private static void momentsOfNarrowedOnes() {
        AuditgateReeve x = withProcess();
        x.token(OWNER, 0, 7, 10000);
        x.token(OWNER, 0, 7, 7);
        Check.is("at 0 until 0", x.narrow(OWNER, 0, 7, 0, OWNER), 2);
        Check.is("at 0 until 10000", x.narrow(OWNER, 0, 7, 10000, OWNER), 3);
        Edges.refusedBeyond("at 0 until", 0, 10000, n -> x.narrow(OWNER, 0, 7, n, OWNER));
        Edges.refusedBeyond("at 0, of one until 7, until", 0, 7, n -> x.narrow(OWNER, 1, 7, n, OWNER));
        x.pass(7);
        Check.is("at 7, of one until 7, until 7", x.narrow(OWNER, 1, 7, 7, OWNER), 4);
        Edges.refusedBeyond("at 7, of one until 7, until", 7, 7, n -> x.narrow(OWNER, 1, 7, n, OWNER));
        Check.is("at 7 by it", x.actBy(OWNER, 4, LOOK), 0);
        x.pass(1);
        Check.is("at 8 by it", x.actBy(OWNER, 4, LOOK), 5);
        for (int until : new int[] {0, 6, 7, 8, 9, 10000}) {
            Check.outOfRange("at 8, of one until 7, until " + until, () -> x.narrow(OWNER, 1, 7, until, OWNER));
        }
        x.pass(992);
        for (int i = 1; i < 10; i++) {
            x.pass(1000);
        }
        Check.is("at 10000 until 10000", x.narrow(OWNER, 0, 7, 10000, OWNER), 5);
        Check.is("at 10000 by it", x.actBy(OWNER, 5, LOOK), 0);
        Edges.refusedBeyond("at 10000 until", 10000, 10000, n -> x.narrow(OWNER, 0, 7, n, OWNER));
    }

    private static void thereStill() {
        AuditgateReeve x = withProcess();
        x.token(OWNER, 0, 7, 0);
        x.token(OWNER, 0, 7, 1);
        x.token(OWNER, 0, 7, 5);
        x.narrow(OWNER, 2, 7, 4, OWNER);
        x.narrow(OWNER, 3, 7, 3, OWNER);
        x.token(OWNER, 0, 7, 10000);
        Check.is("at its last moment, the first one ever", x.takeBack(OWNER, 0), true);
        Check.is("again", x.takeBack(OWNER, 0), false);
        x.pass(2);
        Check.is("one moment later than its last", x.takeBack(OWNER, 1), false);
        x.pass(1);
        Check.is("narrowed, at its last moment", x.takeBack(OWNER, 4), true);
        x.pass(1);
        Check.is("what it was narrowed from is there", x.takeBack(OWNER, 2), true);
        Check.is("one of that, as it is taken back", x.takeBack(OWNER, 3), false);
        for (int now = 1004; now <= 9004; now += 1000) {
            x.pass(1000);
        }
        x.pass(996);
        Check.is("at 10000, the last moment that there is", x.takeBack(OWNER, 5), true);
        Check.is("again at 10000", x.takeBack(OWNER, 5), false);
    }

    private static void moments() {
        AuditgateReeve x = new AuditgateReeve();
        int now = 0;
        for (int moments : new int[] {1, 1000, 1, 999, 2, 1000}) {
            now += moments;
            Check.is("pass(" + moments + ")", x.pass(moments), now);
        }
        Edges.refusedBeyond("pass", 1, 1000, n -> x.pass(n));
        Check.outOfRange("none", () -> x.pass(0));
        Check.is("what was refused let none go by", x.pass(1), now + 1);
    }

    private static void upTo10000() {
        AuditgateReeve x = new AuditgateReeve();
        for (int now = 1000; now <= 9000; now += 1000) {
            Check.is("pass(1000)", x.pass(1000), now);
        }
        Check.is("to 9001", x.pass(1), 9001);
        Check.badState("to 10001", () -> x.pass(1000));
        Check.is("to 10000", x.pass(999), 10000);
        for (int moments : new int[] {1, 2, 999, 1000}) {
            Check.badState("at 10000, " + moments + " more", () -> x.pass(moments));
        }
        Edges.refusedBeyond("at 10000, pass", 1, 1000, n -> x.pass(n));
        AuditgateReeve y = new AuditgateReeve();
        for (int now = 1000; now <= 10000; now += 1000) {
            Check.is("pass(1000)", y.pass(1000), now);
        }
        Check.badState("one more", () -> y.pass(1));
    }

    // ---- the log

    private static void watchedAllowed() {
        for (int allowed = 0; allowed <= 7; allowed++) {
            AuditgateReeve x = withProcess();
            x.watch(allowed, 0);
            for (int right : Worlds.RIGHTS) {
                x.act(OWNER, 0, right);
                x.act(STRANGER, 0, right);
            }
            Check.is("allowed " + allowed, x.entries(), Integer.bitCount(allowed));
        }
    }

    private static void watchedRefused() {
        for (int refused = 0; refused <= 7; refused++) {
            AuditgateReeve x = withProcess();
            x.token(OWNER, 0, LOOK, 0);
            x.watch(0, refused);
            for (int right : Worlds.RIGHTS) {
                x.act(OWNER, 0, right);
                x.act(STRANGER, 0, right);
            }
            int due = Integer.bitCount(refused);
            Check.is("refused " + refused, x.entries(), due);
            x.actBy(OWNER, 0, LOOK);
            Check.is("by a token that lets it", x.entries(), due);
            x.actBy(OWNER, 0, CHANGE);
            Check.is("by a token that does not", x.entries(), due + refused / 2 % 2);
        }
    }

    private static void howManyEntries() {
        AuditgateReeve x = withProcess();
        Check.is("none yet", x.entries(), 0);
        for (int acts = 1; acts <= 19; acts++) {
            x.act(OWNER, 0, LOOK);
        }
        Check.is("one less than there can be", x.entries(), 19);
        x.act(OWNER, 0, LOOK);
        Check.is("as many as there can be", x.entries(), 20);
        x.act(OWNER, 0, LOOK);
        Check.is("one more", x.entries(), 20);
    }

    private static void howManyLost() {
        AuditgateReeve x = withProcess();
        for (int acts = 1; acts <= 20; acts++) {
            x.act(OWNER, 0, LOOK);
            Check.is("after " + acts, x.lost(), 0);
        }
        for (int acts = 21; acts <= 200; acts++) {
            x.act(OWNER, 0, LOOK);
            Check.is("after " + acts, x.lost(), acts - 20);
        }
    }

    private static void allOfAnEntry() {
        AuditgateReeve x = withProcess();
        for (int i = 0; i < 4; i++) {
            x.thing(NONE, 1, 0, 0700);
        }
        x.pass(1000);
        x.act(STRANGER, 3, RUN);
        int[] due = {1000, STRANGER, 3, RUN, 1};
        for (int what = 0; what <= 4; what++) {
            Check.is("what " + what, x.logged(0, what), due[what]);
        }
        Edges.refusedBeyond("what", 0, 4, n -> x.logged(0, n));
    }

    private static void forgedVerdicts() {
        AuditgateReeve x = withProcess();
        x.act(STRANGER, 0, LOOK);
        int before = 1;
        for (int verdict : new int[] {0, 5, 5, 0, 1, 2, 3, 4, 1}) {
            Check.is("from " + before + " to " + verdict, x.forge(0, verdict), before);
            Check.is("logged", x.logged(0, 4), verdict);
            Check.is("without its check", x.broken(), verdict == 1 ? NONE : 0);
            before = verdict;
        }
        Edges.refusedBeyond("verdict", 0, 5, n -> x.forge(0, n));
        Check.is("what was refused forged nothing", x.logged(0, 4), 1);
    }

    private static void firstBroken() {
        AuditgateReeve x = withProcess();
        Check.is("none yet", x.broken(), NONE);
        x.act(OWNER, 0, LOOK);
        Check.is("one", x.broken(), NONE);
        x.forge(0, 1);
        Check.is("the first and only one", x.broken(), 0);
        x.forge(0, 0);
        for (int acts = 2; acts <= 20; acts++) {
            x.act(OWNER, 0, LOOK);
        }
        Check.is("twenty", x.broken(), NONE);
        for (int place = 19; place >= 0; place--) {
            x.forge(place, 5);
            Check.is("from " + place + " on all forged", x.broken(), place);
        }
        for (int place = 0; place < 20; place++) {
            x.forge(place, 0);
            Check.is("up to " + place + " forged back", x.broken(), place == 19 ? NONE : place + 1);
        }
    }
}
