/** The sentences of the promises 17 to 34 that name no boundary. */
final class ActSentences {
    private static final int NONE = Worlds.NONE;
    private static final int LOOK = Worlds.LOOK;
    private static final int CHANGE = Worlds.CHANGE;
    private static final int RUN = Worlds.RUN;
    private static final int OWNER = Worlds.OWNER;
    private static final int STRANGER = Worlds.STRANGER;
    private static final int MASTER = Worlds.MASTER;

    private ActSentences() {
    }

    static void all() {
        Sentences.under("Promise 17: act");
        Sentences.holds("Lets a process act, which is logged.", ActSentences::actsAreLogged);
        Sentences.holds("Returns the verdict.", ActSentences::actsAnswerVerdicts);
        Sentences.under("Promise 18: actBy");
        Sentences.holds("Lets a process act by a token, which is logged;", ActSentences::actsByTokensAreLogged);
        Sentences.holds("Returns the verdict.", ActSentences::ofOneLikeIt);
        tokens();
        Sentences.under("Promise 22: pass");
        Sentences.holds("Lets moments go by.", ActSentences::momentsGoBy);
        Sentences.holds("Returns now.", ActSentences::nowIsTold);
        log();
        Sentences.under("Promise 29: verdict");
        Sentences.holds("Returns the verdict for a right.", ActSentences::actsAnswerVerdicts);
        Sentences.under("Promise 31: reach");
        Sentences.holds("Returns how many things a process has to run at least, as all is, until it has a right on a "
            + "thing.", ActSentences::byReallyRunning);
        Sentences.under("Promise 33: least");
        Sentences.holds("Returns how many rights have to go at least, from the mode of a thing (of owner, group or "
            + "others) and its entries,", ActSentences::byReallyTakingThem);
    }

    private static void tokens() {
        Sentences.under("Promise 19: token");
        Sentences.holds("Makes a token, which its maker holds.", ActSentences::makersHold);
        Sentences.holds("Returns its number.", ActSentences::numbersOfTokens);
        Sentences.under("Promise 20: narrow");
        Sentences.holds("Narrows a token for another process, which holds the new one then; who narrows it is its "
            + "maker.", ActSentences::narrowedForAnother);
        Sentences.holds("Returns its number.", ActSentences::numbersOfTokens);
        Sentences.under("Promise 21: takeBack");
        Sentences.holds("Takes a token back.", ActSentences::takenBack);
    }

    private static void log() {
        Sentences.under("Promise 23: watch");
        Sentences.holds("Tells what is logged.", ActSentences::whatIsLogged);
        Sentences.under("Promise 26: logged");
        Sentences.holds("Tells of an entry.", ActSentences::actsAreLogged);
        Sentences.under("Promise 27: forge");
        Sentences.holds("Forges the verdict of an entry, without its check.", ActSentences::forgedOnly);
        Sentences.holds("Returns the verdict before.", ActSentences::verdictsBefore);
        Sentences.under("Promise 28: broken");
        Sentences.holds("Returns the first entry whose check is not right.", ActSentences::firstOfForged);
    }

    // ---- acts

    /** Four processes and four things, of which many but not all acts are allowed; runs go round. */
    private static AuditgateReeve withFours() {
        AuditgateReeve x = new AuditgateReeve();
        for (int n = 0; n < 4; n++) {
            x.type(x.thing(NONE, n, 0, 0755 + 512 * (n % 2)), n);
            x.process(n, n, n / 2, n, n % 2, 7);
            x.move(n, n % 2, (n + 1) % 4);
        }
        for (int cell = 0; cell < 16; cell++) {
            x.rule(cell / 4, cell % 4, 7 - cell % 5);
        }
        x.filter(0, 5);
        return x;
    }

    private static void actsAreLogged() {
        AuditgateReeve x = withFours();
        int lost = 0;
        int[] seen = new int[5];
        for (int i = 0; i < 48; i++) {
            int process = i % 4;
            int thing = i * 7 / 4 % 4;
            int right = 1 << i % 3;
            int now = x.pass(i + 1);
            int verdict = x.act(process, thing, right);
            seen[verdict]++;
            int last = Math.min(19, i);
            lost = Math.max(0, i - 19);
            Check.is("lost", x.lost(), lost);
            int[] due = {now, process, thing, right, verdict};
            for (int what = 0; what < 5; what++) {
                Check.is("act " + i + ", logged(" + last + ", " + what + ")", x.logged(last, what), due[what]);
            }
        }
        for (int verdict = 0; verdict < 5; verdict++) {
            Check.is("there were acts of verdict " + verdict, seen[verdict] > 0, true);
        }
    }

    private static void actsAnswerVerdicts() {
        AuditgateReeve x = withFours();
        int runs = 0;
        for (int i = 0; i < 96; i++) {
            int process = i % 4;
            int thing = i / 4 % 4;
            int right = 1 << i / 16 % 3;
            int due = Worlds.verdict(x, process, thing, right);
            Check.is("act " + i, x.act(process, thing, right), due);
            runs += due == 0 && right == RUN ? 1 : 0;
            if (right != RUN) {
                Check.is("after act " + i, Worlds.verdict(x, process, thing, right), due);
            }
        }
        Check.is("there were runs", runs > 5, true);
    }

    private static void actsByTokensAreLogged() {
        AuditgateReeve x = withFours();
        for (int token = 0; token < 4; token++) {
            x.token(token, 3 - token, 1 + 2 * token, 5000);
        }
        for (int i = 0; i < 24; i++) {
            int process = i % 4;
            int right = 1 << i / 4 % 3;
            int now = x.pass(1);
            int verdict = x.actBy(process, process, right);
            int[] due = {now, process, 3 - process, right, verdict};
            for (int what = 0; what < 5; what++) {
                Check.is("act " + i + ", logged", x.logged(x.entries() - 1, what), due[what]);
            }
        }
        Check.is("all were logged", x.entries() + x.lost(), 24);
        Check.is("all are right", x.broken(), NONE);
    }

    /** Beside the one that acts stands one with the user and domain of the token, and all else of the one that acts. */
    private static void ofOneLikeIt() {
        int[] seen = new int[6];
        for (int kind = 0; kind < 256; kind++) {
            AuditgateReeve x = Worlds.withOneThing(kind % 4 == 0 ? 0077 : 0500 + kind % 8);
            int maker = x.process(1, 1 + kind % 2, 0, 0, 7, 7);
            int other = x.process(2, 3, kind / 4 % 2, kind / 8 % 8, kind % 8, 7);
            int like = x.process(1, 1 + kind % 2, kind / 4 % 2, kind / 8 % 8, 0, 0);
            for (int process : new int[] {other, like}) {
                x.filter(process, 7 - kind / 64);
                x.filter(process, 7 - kind / 128);
            }
            x.rule(1, 0, 7 - kind / 32 % 2);
            x.rule(3, 0, 0);
            x.label(MASTER, 0, kind / 16 % 2, kind / 2 % 8);
            x.token(maker, 0, 1 + kind % 7, 9);
            x.narrow(maker, 0, 1 + kind % 7, 9, other);
            for (int right : Worlds.RIGHTS) {
                int due = (1 + kind % 7 & right) == 0 ? 5 : Worlds.verdict(x, like, 0, right);
                Check.is("kind " + kind + " for " + right, x.actBy(other, 1, right), due);
                seen[due]++;
            }
        }
        for (int verdict = 0; verdict < 6; verdict++) {
            Check.is("there were acts of verdict " + verdict, seen[verdict] > 0, true);
        }
    }

    // ---- tokens

    private static void makersHold() {
        for (int maker = 0; maker < 8; maker++) {
            AuditgateReeve x = withEight();
            x.token(maker, 0, 7, 9);
            for (int process = 0; process < 8; process++) {
                int p = process;
                Check.is("made by " + maker + ", by " + p, Check.answerOf(() -> x.actBy(p, 0, LOOK)),
                    p == maker ? "0" : "throws.UnsupportedOperationException");
            }
        }
    }

    /** Thing 0, which all may do all with, and as many processes as there can be. */
    private static AuditgateReeve withEight() {
        AuditgateReeve x = Worlds.withRules();
        x.thing(NONE, 1, 0, 0777);
        for (int i = 0; i < 8; i++) {
            x.process(i % 6, i % 4, 0, 0, 0, 0);
        }
        return x;
    }

    private static void numbersOfTokens() {
        AuditgateReeve x = withEight();
        for (int i = 0; i < 10; i++) {
            boolean isNarrowed = i % 3 == 2;
            int made = isNarrowed ? x.narrow((i - 1) % 8, i - 1, 1, 9, i % 8) : x.token(i % 8, 0, 7, 9);
            Check.is("token " + i, made, i);
            Check.is("it is told by that number, to look", x.actBy(i % 8, made, LOOK), 0);
            Check.is("it is told by that number, to change", x.actBy(i % 8, made, CHANGE), isNarrowed ? 5 : 0);
        }
    }

    /** Each of three narrows for each of three: who holds it acts, who narrowed it takes it back. */
    private static void narrowedForAnother() {
        for (int kind = 0; kind < 9; kind++) {
            int by = kind / 3;
            int other = kind % 3;
            AuditgateReeve x = withEight();
            x.token(by, 0, 7, 9);
            Check.is("narrowed by " + by + " for " + other, x.narrow(by, 0, 3, 9, other), 1);
            for (int process = 0; process < 3; process++) {
                int p = process;
                Check.is("held by " + p, Check.answerOf(() -> x.actBy(p, 1, CHANGE)),
                    p == other ? "0" : "throws.UnsupportedOperationException");
            }
            Check.is("the first is held still", x.actBy(by, 0, RUN), 0);
            Check.is("and narrowed on", x.narrow(other, 1, 2, 9, 7), 2);
            for (int process = 2; process >= 0; process--) {
                int p = process;
                if (p != by) {
                    Check.mayNot("taken back by " + p, () -> Edges.truth(x.takeBack(p, 1)));
                }
            }
            Check.is("taken back by who narrowed it", x.takeBack(by, 1), true);
            Check.is("the first is there", x.actBy(by, 0, LOOK), 0);
            Check.is("the third is not", x.actBy(7, 2, CHANGE), 5);
        }
    }

    private static void takenBack() {
        AuditgateReeve x = withEight();
        for (int token = 0; token < 10; token++) {
            x.token(token % 8, 0, 7, 9);
        }
        for (int taken = 9; taken >= 0; taken -= 2) {
            Check.is("taken back " + taken, x.takeBack(taken % 8, taken), true);
            for (int token = 0; token < 10; token++) {
                Check.is("token " + token + ", from " + taken + " on taken back", x.actBy(token % 8, token, LOOK),
                    token % 2 == 1 && token >= taken ? 5 : 0);
            }
        }
    }

    // ---- moments and the log

    private static void momentsGoBy() {
        AuditgateReeve x = Worlds.withOneThing(0700);
        x.token(OWNER, 0, 7, 6);
        int now = 0;
        for (int moments = 1; moments <= 5; moments++) {
            x.pass(moments);
            now += moments;
            x.act(OWNER, 0, LOOK);
            Check.is("logged at " + now, x.logged(moments - 1, 0), now);
            int before = now - 1;
            Check.outOfRange("a token until " + before, () -> x.token(OWNER, 0, 7, before));
            x.watch(0, 0);
            Check.is("the token until 6 at " + now, x.actBy(OWNER, 0, LOOK), now <= 6 ? 0 : 5);
            x.watch(7, 7);
        }
    }

    private static void nowIsTold() {
        AuditgateReeve x = new AuditgateReeve();
        int now = 0;
        for (int i = 1; now + i * i <= 10000; i++) {
            now += i * i;
            Check.is("after " + i * i + " more", x.pass(i * i), now);
        }
        Check.badState("too far", () -> x.pass(1000));
        Check.is("one moment more", x.pass(1), now + 1);
    }

    private static void whatIsLogged() {
        AuditgateReeve x = Worlds.withOneThing(0700);
        x.token(STRANGER, 0, 3, 9);
        int due = 0;
        for (int told = 0; told < 8; told++) {
            x.watch(told, 7 - told);
            for (int right : Worlds.RIGHTS) {
                x.act(OWNER, 0, right);
                x.act(STRANGER, 0, right);
                x.actBy(STRANGER, 0, right);
                due += (told & right) != 0 ? 1 : 2;
                Check.is("told " + told + ", for " + right, x.entries() + x.lost(), due);
                int verdict = (told & right) != 0 ? 0 : right == RUN ? 5 : 1;
                Check.is("the last one", x.logged(x.entries() - 1, 4), verdict);
            }
        }
    }

    /** Of the five numbers of twenty entries only the one is another then; and only that entry is not right. */
    private static void forgedOnly() {
        for (int forged = 0; forged < 20; forged++) {
            AuditgateReeve x = withTwenty();
            AuditgateReeve y = withTwenty();
            x.forge(forged, 4);
            for (int i = 0; i < 100; i++) {
                boolean isForged = i / 5 == forged && i % 5 == 4;
                Check.is("entry " + i / 5 + ", " + i % 5 + ", forged " + forged, x.logged(i / 5, i % 5),
                    isForged ? 4 : y.logged(i / 5, i % 5));
            }
            Check.is("without its check", x.broken(), forged);
            x.forge(forged, y.logged(forged, 4));
            Check.is("with the verdict that its check is of", x.broken(), NONE);
        }
    }

    /** Twenty entries, five more being lost; none of the verdict 4. */
    private static AuditgateReeve withTwenty() {
        AuditgateReeve x = Worlds.withOneThing(0700);
        for (int i = 0; i < 25; i++) {
            x.act(i * i % 3, 0, 1 << i % 3);
            x.pass(i + 1);
        }
        return x;
    }

    private static void verdictsBefore() {
        AuditgateReeve x = withTwenty();
        int[] before = new int[20];
        for (int entry = 0; entry < 20; entry++) {
            before[entry] = x.logged(entry, 4);
        }
        for (int turn = 0; turn < 7; turn++) {
            for (int entry = 0; entry < 20; entry++) {
                int verdict = (turn + entry) % 6;
                Check.is("turn " + turn + ", entry " + entry, x.forge(entry, verdict), before[entry]);
                before[entry] = verdict;
            }
        }
    }

    /** All pairs of entries: the first one of them is told, then the other one. */
    private static void firstOfForged() {
        for (int first = 0; first < 20; first++) {
            AuditgateReeve x = withTwenty();
            int before = x.forge(first, 4);
            for (int second = first + 1; second < 20; second++) {
                int verdict = x.forge(second, 4);
                Check.is("of " + first + " and " + second, x.broken(), first);
                x.forge(first, before);
                Check.is("of " + second, x.broken(), second);
                x.forge(second, verdict);
                x.forge(first, 4);
            }
        }
    }

    // ---- questions, answered by doing it

    /** Things 0 to 3 can be run by some; each kind has other owners, modes, types and moves. */
    private static AuditgateReeve withSteps(int kind) {
        AuditgateReeve x = new AuditgateReeve();
        for (int n = 0; n < 4; n++) {
            int owner = (n + kind / 3) % 4;
            x.thing(NONE, owner, n, kind / (n + 1) % 3 == 0 ? 01710 : kind / (n + 2) % 2 == 0 ? 0744 : 01750);
            x.type(n, (n + kind / 5) % 4);
            x.member(n, false, (owner + 3) % 4, true);
        }
        for (int cell = 0; cell < 16; cell++) {
            x.rule(cell / 4, cell % 4, (cell + kind) % 7 == 0 ? 3 : (cell + kind) % 5 == 0 ? 4 : 5);
            x.move(cell / 4, cell % 4, (cell * 3 + kind) % 6 < 4 ? (cell + kind) % 4 : NONE);
        }
        x.process(kind % 4, kind / 2 % 4, 0, 0, 0, kind % 2);
        return x;
    }

    private static void byReallyRunning() {
        int[] seen = new int[5];
        for (int kind = 0; kind < 60; kind++) {
            AuditgateReeve asked = withSteps(kind);
            for (int thing = 0; thing < 4; thing++) {
                for (int right : Worlds.RIGHTS) {
                    int due = fewestReallyRun(kind, thing, right);
                    Check.is("kind " + kind + ", thing " + thing + " for " + right,
                        Worlds.reach(asked, 0, thing, right), due);
                    seen[due + 1]++;
                }
            }
        }
        for (int answer = NONE; answer <= 3; answer++) {
            Check.is("there were answers of " + answer, seen[answer + 1] > 2, true);
        }
    }

    /** Runs every row of at most three things, each on an object of its own. */
    private static int fewestReallyRun(int kind, int thing, int right) {
        int rows = 1;
        for (int length = 0; length <= 3; length++) {
            for (int row = 0; row < rows; row++) {
                AuditgateReeve x = withSteps(kind);
                boolean isRun = true;
                for (int i = 0; i < length; i++) {
                    isRun = isRun && x.act(0, row >> 2 * i & 3, RUN) == 0;
                }
                if (isRun && x.act(0, thing, right) == 0) {
                    return length;
                }
            }
            rows *= 4;
        }
        return NONE;
    }

    /** User 2 asks; each kind has it in other groups, and other rights in the mode and the entries. */
    private static AuditgateReeve withWays(int kind) {
        AuditgateReeve x = Worlds.withOneThing(kind * 37 % 512);
        x.give(MASTER, 0, kind % 7 == 0 ? 2 : 1);
        for (int group = 0; group < 5; group++) {
            x.member(group, false, 2, (kind >> group & 1) == 0);
            if (group > 0) {
                x.entry(MASTER, 0, true, group, kind % 4 == 0 ? 7 : (kind + 3 * group) % 9 - 1, false);
            }
        }
        if (kind % 5 == 0) {
            x.entry(MASTER, 0, false, 2, kind % 8, false);
        }
        x.mask(MASTER, 0, 7 - kind / 16 % 3);
        return x;
    }

    private static void byReallyTakingThem() {
        int[] seen = new int[6];
        for (int kind = 0; kind < 96; kind++) {
            AuditgateReeve asked = withWays(kind);
            for (int right : Worlds.RIGHTS) {
                int due = fewestReallyTaken(kind, right);
                Check.is("kind " + kind + " for " + right, Worlds.least(asked, 2, 0, right), due);
                seen[Math.min(5, due)]++;
            }
        }
        for (int answer = 0; answer <= 5; answer++) {
            Check.is("there were answers of " + answer, seen[answer] > 0, true);
        }
    }

    /** Takes every set of the eight rights that could go, each from an object of its own. */
    private static int fewestReallyTaken(int kind, int right) {
        int fewest = 9;
        for (int set = 0; set < 256; set++) {
            if (Integer.bitCount(set) < fewest) {
                AuditgateReeve x = withWays(kind);
                takeAway(x, set, right);
                if (x.act(STRANGER, 0, right) != 0) {
                    fewest = Integer.bitCount(set);
                }
            }
        }
        return fewest;
    }

    /** Bits 0 to 2 are those of the mode, 3 to 6 the entries of groups, 7 the entry of the user. */
    private static void takeAway(AuditgateReeve x, int set, int right) {
        int mode = x.mode(MASTER, 0, 0);
        for (int place = 0; place < 3; place++) {
            mode &= (set >> place & 1) == 1 ? ~(right << 3 * place) : -1;
        }
        x.mode(MASTER, 0, mode);
        for (int place = 3; place < 8; place++) {
            boolean isGroup = place < 7;
            int who = isGroup ? place - 2 : 2;
            int rights = Worlds.entryOf(x, 0, isGroup, who);
            if (rights != NONE) {
                x.entry(MASTER, 0, isGroup, who, (set >> place & 1) == 1 ? rights & ~right : rights, false);
            }
        }
    }
}
