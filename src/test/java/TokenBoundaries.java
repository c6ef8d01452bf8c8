/** The sentences of "Verdicts" that tell of tokens. */
final class TokenBoundaries {
    private static final int NONE = Worlds.NONE;
    private static final int LOOK = Worlds.LOOK;
    private static final int CHANGE = Worlds.CHANGE;
    private static final int RUN = Worlds.RUN;
    private static final int OWNER = Worlds.OWNER;
    private static final int STRANGER = Worlds.STRANGER;
    private static final int MASTER = Worlds.MASTER;

    private TokenBoundaries() {
    }

    static void all() {
        Sentences.under("Verdicts");
        Sentences.holds("Tokens are numbered from 0, at most 10.", TokenBoundaries::tenTokens);
        Sentences.holds("A token is for a thing, some rights, and until a moment, with it;",
            TokenBoundaries::untilAMoment);
        Sentences.holds("it is made by a process, whose user and domain it keeps, or narrowed from another one:",
            TokenBoundaries::whatItKeeps);
        Sentences.holds("at most its rights, at most until its moment, with the user and domain that this one keeps.",
            TokenBoundaries::atMostThose);
        Sentences.holds("A process holds tokens.", TokenBoundaries::holders);
        Sentences.holds("To act by a token, the right has to be in it, it and all from which it was narrowed must be "
            + "there still,", TokenBoundaries::allMustBeThere);
        Sentences.holds("and the verdict for a process with the user and domain that it keeps, and the level, "
            + "categories, filters of the process that acts, without fine rights, has to be 0;",
            TokenBoundaries::ofTheProcessThatActs);
        Sentences.holds("otherwise the verdict is 5, if the token does not let it, or that one.",
            TokenBoundaries::fiveOrThatOne);
        Sentences.holds("It can be taken back by its maker.", TokenBoundaries::byItsMaker);
    }

    private static void tenTokens() {
        for (int kind = 0; kind < 3; kind++) {
            AuditgateReeve x = Worlds.withOneThing(0700);
            Check.noSuchOne("token 0 of none", () -> x.actBy(OWNER, 0, LOOK));
            Check.noSuchOne("token 0 of none, taken back", () -> Edges.truth(x.takeBack(OWNER, 0)));
            Check.noSuchOne("token 0 of none, narrowed", () -> x.narrow(OWNER, 0, 1, 0, OWNER));
            for (int i = 0; i < 10; i++) {
                int next = i + 1;
                int made = i == 0 || kind == 0 ? x.token(OWNER, 0, 7, 5) : x.narrow(OWNER, i - 1, 7, 5, OWNER);
                Check.is("token " + i, made, i);
                Check.noSuchOne("token " + next + " of " + next, () -> x.actBy(OWNER, next, LOOK));
            }
            if (kind == 2) {
                x.takeBack(OWNER, 9);
                x.pass(6);
            }
            Check.badState("one more", () -> x.token(OWNER, 0, 7, 10));
            Check.is("one more, narrowed", Check.answerOf(() -> x.narrow(OWNER, 0, 7, 5, OWNER)),
                kind == 2 ? "throws.IllegalArgumentException" : "throws.IllegalStateException");
            Check.noSuchOne("token 10", () -> x.actBy(OWNER, 10, LOOK));
            Check.is("token 0", x.actBy(OWNER, 0, LOOK), kind == 2 ? 5 : 0);
            Check.is("token 9", x.actBy(OWNER, 9, LOOK), kind == 2 ? 5 : 0);
        }
    }

    private static void untilAMoment() {
        AuditgateReeve x = Worlds.withOneThing(0700);
        x.token(OWNER, 0, 7, 0);
        x.token(OWNER, 0, 7, 1);
        x.token(OWNER, 0, 7, 10);
        x.token(OWNER, 0, 7, 9999);
        x.token(OWNER, 0, 7, 10000);
        int[] until = {0, 1, 10, 9999, 10000};
        int now = 0;
        for (int pass : new int[] {0, 1, 1, 7, 1, 1, 988, 1000, 1000, 1000, 1000, 1000, 1000, 1000, 1000, 1000, 1}) {
            now = pass == 0 ? 0 : x.pass(pass);
            for (int token = 0; token < 5; token++) {
                Check.is("at " + now + " by the token until " + until[token], x.actBy(OWNER, token, LOOK),
                    now <= until[token] ? 0 : 5);
            }
        }
        Check.is("now", now, 10000);
    }

    private static void whatItKeeps() {
        AuditgateReeve x = Worlds.withOneThing(0700);
        int runner = x.process(1, 2, 0, 0, 0, 0);
        int mover = x.thing(NONE, 5, 0, 01777);
        x.type(mover, 1);
        x.move(2, 1, 3);
        x.rule(3, 0, 0);
        x.token(runner, 0, 7, 10);
        Check.is("run", x.act(runner, mover, RUN), 0);
        Check.is("another user", x.about(runner, 0), 5);
        Check.is("another domain", x.about(runner, 1), 3);
        Check.is("the token is of those of before", x.actBy(runner, 0, LOOK), 0);
        Check.is("one made now is of those of now", x.actBy(runner, x.token(runner, mover, 7, 10), LOOK), 0);
        x.mode(MASTER, mover, 0077);
        Check.is("as the owner", x.actBy(runner, 1, LOOK), 1);
        x.mode(MASTER, mover, 0700);
        x.rule(3, 1, 0);
        Check.is("as of that domain", x.actBy(runner, 1, LOOK), 3);
        x.rule(2, 0, 0);
        Check.is("as of the domain of before", x.actBy(runner, 0, LOOK), 3);
        Check.is("narrowed from it", x.narrow(runner, 0, 7, 10, STRANGER), 2);
        Check.is("as of that one's domain", x.actBy(STRANGER, 2, LOOK), 3);
        x.rule(2, 0, 7);
        Check.is("as of that one's user", x.actBy(STRANGER, 2, LOOK), 0);
    }

    private static void atMostThose() {
        for (int rights = 1; rights <= 7; rights++) {
            for (int fewer = 1; fewer <= 7; fewer++) {
                AuditgateReeve x = Worlds.withOneThing(0700);
                x.token(OWNER, 0, rights, 20);
                boolean isWithin = (fewer | rights) == rights;
                int asked = fewer;
                Check.is("rights " + fewer + " of " + rights,
                    Check.answerOf(() -> x.narrow(OWNER, 0, asked, 20, STRANGER)),
                    isWithin ? "1" : "throws.IllegalArgumentException");
                for (int right : Worlds.RIGHTS) {
                    if (isWithin) {
                        Check.is("for " + right, x.actBy(STRANGER, 1, right), (fewer & right) != 0 ? 0 : 5);
                    }
                }
            }
        }
        AuditgateReeve x = Worlds.withOneThing(0700);
        x.pass(10);
        x.token(OWNER, 0, 7, 20);
        Check.is("until its moment", x.narrow(OWNER, 0, 7, 20, OWNER), 1);
        Check.outOfRange("until one moment later", () -> x.narrow(OWNER, 0, 7, 21, OWNER));
        Check.is("until now", x.narrow(OWNER, 0, 7, 10, OWNER), 2);
        Check.outOfRange("until one moment ahead of now", () -> x.narrow(OWNER, 0, 7, 9, OWNER));
        Check.is("of the one that was narrowed, until its moment", x.narrow(OWNER, 2, 7, 10, OWNER), 3);
        Check.outOfRange("later than that, though not than the first", () -> x.narrow(OWNER, 2, 7, 11, OWNER));
        x.narrow(OWNER, 0, 1, 20, OWNER);
        Check.outOfRange("more rights than that, though not than the first", () -> x.narrow(OWNER, 4, 2, 20, OWNER));
    }

    private static void holders() {
        AuditgateReeve x = Worlds.withOneThing(0700);
        for (int i = 3; i < 8; i++) {
            x.process(2, 0, 0, 0, 0, 0);
        }
        x.token(OWNER, 0, 7, 5);
        x.narrow(OWNER, 0, 7, 5, 7);
        for (int i = 0; i < 8; i++) {
            int process = i;
            Check.is("token 0 by " + i, Check.answerOf(() -> x.actBy(process, 0, LOOK)),
                i == 0 ? "0" : "throws.UnsupportedOperationException");
            Check.is("token 1 by " + i, Check.answerOf(() -> x.actBy(process, 1, LOOK)),
                i == 7 ? "0" : "throws.UnsupportedOperationException");
        }
        x.takeBack(OWNER, 1);
        Check.is("taken back it is held still", x.actBy(7, 1, LOOK), 5);
        x.pass(6);
        Check.is("over it is held still", x.actBy(0, 0, LOOK), 5);
    }

    /** As many as there can be, each narrowed from the one ahead. */
    private static void allMustBeThere() {
        for (int taken = 0; taken < 10; taken++) {
            AuditgateReeve x = inARow();
            for (int i = 0; i < 10; i++) {
                Check.is("token " + i, x.actBy(OWNER, i, RUN), 0);
            }
            Check.is("taken back", x.takeBack(OWNER, taken), true);
            for (int i = 0; i < 10; i++) {
                Check.is("token " + i + " without " + taken, x.actBy(OWNER, i, RUN), i < taken ? 0 : 5);
            }
        }
        AuditgateReeve x = inARow();
        for (int now = 1; now <= 10; now++) {
            x.pass(1);
            for (int i = 0; i < 10; i++) {
                Check.is("at " + now + " the token until " + (9 - i), x.actBy(OWNER, i, RUN), now <= 9 - i ? 0 : 5);
            }
        }
        AuditgateReeve y = Worlds.withOneThing(0700);
        y.token(OWNER, 0, 6, 10);
        Check.is("not in it", y.actBy(OWNER, 0, LOOK), 5);
        Check.is("in it", y.actBy(OWNER, 0, CHANGE), 0);
    }

    /** Ten tokens in a row, until 9, 8 and so on to 0. */
    private static AuditgateReeve inARow() {
        AuditgateReeve x = Worlds.withOneThing(0700);
        x.token(OWNER, 0, 7, 9);
        for (int i = 1; i < 10; i++) {
            x.narrow(OWNER, i - 1, 7, 9 - i, OWNER);
        }
        return x;
    }

    private static void ofTheProcessThatActs() {
        AuditgateReeve x = Worlds.withOneThing(0700);
        int high = x.process(2, 0, 3, 7, 0, 0);
        int filtered = x.process(2, 0, 0, 0, 0, 0);
        int fine = x.process(2, 0, 0, 0, 7, 7);
        x.filter(filtered, 6);
        x.token(OWNER, 0, 7, 10);
        for (int holder : new int[] {STRANGER, high, filtered, fine}) {
            x.narrow(OWNER, 0, 7, 10, holder);
        }
        Check.is("at the level of the thing, to look", x.actBy(STRANGER, 1, LOOK), 0);
        Check.is("at the level of the thing, to change", x.actBy(STRANGER, 1, CHANGE), 0);
        Check.is("above it, to look", x.actBy(high, 2, LOOK), 0);
        Check.is("above it, to change", x.actBy(high, 2, CHANGE), 2);
        Check.is("by a filter, to look", x.actBy(filtered, 3, LOOK), 4);
        Check.is("by a filter, to change", x.actBy(filtered, 3, CHANGE), 0);
        x.label(MASTER, 0, 3, 7);
        Check.is("below it, to look", x.actBy(STRANGER, 1, LOOK), 2);
        Check.is("below it, to change", x.actBy(STRANGER, 1, CHANGE), 0);
        Check.is("at its level, to look", x.actBy(high, 2, LOOK), 0);
        x.label(MASTER, 0, 0, 0);
        x.mode(OWNER, 0, 0077);
        Check.is("without fine rights", x.actBy(fine, 4, LOOK), 1);
        Check.is("though it has them", x.verdict(fine, 0, LOOK), 0);
    }

    private static void fiveOrThatOne() {
        for (int denied = 0; denied < 16; denied++) {
            AuditgateReeve x = Worlds.withOneThing(0700);
            int process = x.process(1, 2, 1, 1, 0, 0);
            x.token(process, 0, LOOK | CHANGE, 10);
            x.mode(OWNER, 0, denied % 2 == 1 ? 0 : 0700);
            x.label(MASTER, 0, 1, denied / 2 % 2 == 1 ? 2 : 1);
            x.rule(2, 0, denied / 4 % 2 == 1 ? 0 : 7);
            x.filter(process, denied / 8 == 1 ? 0 : 7);
            int first = denied == 0 ? 0 : Integer.numberOfTrailingZeros(denied) + 1;
            Check.is("denied by " + denied, x.actBy(process, 0, LOOK), first);
            Check.is("and not in the token", x.actBy(process, 0, RUN), 5);
            x.takeBack(process, 0);
            Check.is("and taken back", x.actBy(process, 0, LOOK), 5);
        }
    }

    private static void byItsMaker() {
        AuditgateReeve x = Worlds.withOneThing(0700);
        x.token(OWNER, 0, 7, 10);
        x.narrow(OWNER, 0, 7, 10, STRANGER);
        x.narrow(STRANGER, 1, 7, 10, MASTER);
        int[] maker = {OWNER, OWNER, STRANGER};
        for (int token = 2; token >= 0; token--) {
            for (int process = 0; process < 3; process++) {
                int p = process;
                int t = token;
                if (p != maker[t]) {
                    Check.mayNot("token " + t + " by " + p, () -> Edges.truth(x.takeBack(p, t)));
                }
            }
            Check.is("token " + token + " by its maker", x.takeBack(maker[token], token), true);
        }
    }
}
