import java.util.Map;
import java.util.Random;
import java.util.TreeMap;

/** Seeded runs of at most 512 calls on the class and the model; every answer has to be the same. */
public final class RandomRunsTest {
    private static final int RUNS = 8000;
    private static final int CALLS = 512;
    private static final int LEAST_SEEN = 10;
    private static final int[] STRANGE = {-1, -2, 6, 7, 8, 9, 12, 20, 1024, 10001, 32, 64,
        Integer.MIN_VALUE, Integer.MAX_VALUE, Integer.MAX_VALUE - 7, 1 << 30};

    /** Answers that the runs have to come to. */
    private static final String DUE = "act 0; act 1; act 2; act 3; act 4; verdict 0; verdict 1; verdict 2; verdict 3; "
        + "verdict 4; verdictAnew 0; verdictAnew 1; verdictAnew 2; verdictAnew 3; verdictAnew 4; actBy 0; actBy 1; "
        + "actBy 2; actBy 3; actBy 4; actBy 5; reach -1; reach 0; reach 1; reach 2; reach 3; reachAnew -1; "
        + "reachAnew 0; reachAnew 1; reachAnew 2; reachAnew 3; least 0; least 1; least 2; least 3; leastAnew 0; "
        + "leastAnew 1; leastAnew 2; leastAnew 3; broken -1; broken 0; broken 7; narrow 3; takeBack 0; takeBack 1; "
        + "member 0; member 1; groups 0; groups 63; entry -1; entry 7; lost 5; entries 20; forge 5; thing 11; "
        + "process 7; token 9; member throws.IndexOutOfBoundsException; member throws.IllegalStateException; "
        + "thing throws.IllegalStateException; entry throws.UnsupportedOperationException; "
        + "entry throws.IllegalStateException; give throws.UnsupportedOperationException; "
        + "label throws.UnsupportedOperationException; process throws.IllegalStateException; "
        + "process throws.IllegalArgumentException; filter throws.IllegalStateException; "
        + "actBy throws.UnsupportedOperationException; token throws.IllegalStateException; "
        + "narrow throws.IllegalArgumentException; narrow throws.UnsupportedOperationException; "
        + "narrow throws.IllegalStateException; takeBack throws.UnsupportedOperationException; "
        + "pass throws.IllegalStateException; logged throws.IndexOutOfBoundsException";

    private final Random random;
    private final AuditgateReeve reeve = new AuditgateReeve();
    private final Model model = new Model();
    private final StringBuilder told = new StringBuilder();
    private final int strangeness;
    private final boolean isOpen;
    private final boolean isGrouped;
    private final boolean isQuick;
    private final Map<String, Integer> seen;
    private int things = 0;
    private int processes = 0;
    private int tokens = 0;

    private RandomRunsTest(int seed, Map<String, Integer> seen) {
        random = new Random(seed);
        strangeness = new int[] {0, 40, 12}[seed % 3];
        isOpen = seed % 2 == 0;
        isGrouped = seed % 5 == 1;
        isQuick = seed % 7 == 1;
        this.seen = seen;
    }

    public static void main(String[] args) {
        Map<String, Integer> seen = new TreeMap<>();
        for (int seed = 1; seed <= RUNS; seed++) {
            if (!new RandomRunsTest(seed, seen).isAllRight()) {
                Check.report("in the run of seed " + seed);
                break;
            }
        }
        // Runs that never come to an answer would test nothing of it.
        for (String answer : DUE.split("; ")) {
            if (seen.getOrDefault(answer, 0) < LEAST_SEEN) {
                Check.report("too few times " + answer + ": " + seen.getOrDefault(answer, 0));
            }
        }
        Check.end();
    }

    private boolean isAllRight() {
        int calls = random.nextInt(4) == 0 ? random.nextInt(CALLS) + 1 : CALLS;
        for (int i = 0; i < calls; i++) {
            int before = told.length();
            int kind = i < 25 ? random.nextInt(12) : random.nextInt(100);
            if (!isSame(kind)) {
                System.out.println(told.substring(Math.max(0, before - 3000)));
                return false;
            }
        }
        return true;
    }

    private boolean isSame(int kind) {
        if (kind < 12) {
            return isSameOfWorld(kind);
        }
        if (kind < 38) {
            return isSameOfThings(kind);
        }
        if (kind < 68) {
            return isSameOfActs(kind);
        }
        return isSameOfQuestions(kind);
    }

    private boolean same(String call, Check.Call real, Check.Call due) {
        String want = Check.answerOf(due);
        String got = Check.answerOf(real);
        told.append(call).append(" = ").append(got).append('\n');
        seen.merge(call.substring(0, call.indexOf('(')) + " " + want, 1, Integer::sum);
        if (!got.equals(want)) {
            told.append("due is ").append(want).append('\n');
        }
        return got.equals(want);
    }

    // ---- arguments, now and then strange ones

    private int pick(int count) {
        if (strangeness > 0 && random.nextInt(strangeness) == 0) {
            return STRANGE[random.nextInt(STRANGE.length)];
        }
        return count <= 0 ? random.nextInt(3) - 1 : random.nextInt(count);
    }

    private int user() {
        return pick(6);
    }

    private int rightsSet() {
        return isOpen && random.nextInt(3) > 0 ? 7 : pick(8);
    }

    private int right() {
        int right = 1 << random.nextInt(3);
        return strangeness > 0 && random.nextInt(strangeness) == 0 ? pick(9) : right;
    }

    private int mode() {
        if (isGrouped) {
            return random.nextInt(3) == 0 ? pick(1024) : 01770;
        }
        return isOpen && random.nextInt(2) == 0 ? pick(1024) | 0111 | 0444 : pick(1024);
    }

    private int level() {
        return random.nextInt(2) == 0 ? 1 : pick(4);
    }

    private int categories() {
        return random.nextInt(2) == 0 ? 0 : pick(8);
    }

    private String call(String name, Object... args) {
        StringBuilder text = new StringBuilder(name).append('(');
        for (Object arg : args) {
            text.append(text.charAt(text.length() - 1) == '(' ? "" : ", ").append(arg);
        }
        return text.append(')').toString();
    }

    // ---- calls

    private boolean isSameOfWorld(int kind) {
        if (kind < 2) {
            int g = user();
            boolean isGroup = isGrouped ? random.nextInt(4) == 0 : random.nextBoolean();
            int m = user();
            boolean is = random.nextInt(3) > 0;
            return same(call("member", g, isGroup, m, is), () -> reeve.member(g, isGroup, m, is) ? 1 : 0,
                () -> model.member(g, isGroup, m, is));
        }
        if (kind < 4) {
            int in = random.nextBoolean() ? -1 : pick(things);
            int owner = user();
            int group = user();
            int mode = mode();
            things = Math.min(12, things + 1);
            return same(call("thing", in, owner, group, mode), () -> reeve.thing(in, owner, group, mode),
                () -> model.thing(in, owner, group, mode));
        }
        if (kind < 6) {
            int user = user();
            int domain = pick(4);
            int level = level();
            int categories = categories();
            int bounds = pick(8);
            int fine = random.nextInt(8) == 0 ? pick(8) : bounds & random.nextInt(8);
            processes = Math.min(8, processes + 1);
            return same(call("process", user, domain, level, categories, fine, bounds),
                () -> reeve.process(user, domain, level, categories, fine, bounds),
                () -> model.process(user, domain, level, categories, fine, bounds));
        }
        int domain = pick(4);
        int type = pick(4);
        if (kind < 9) {
            int rights = rightsSet();
            return same(call("rule", domain, type, rights), () -> reeve.rule(domain, type, rights),
                () -> model.rule(domain, type, rights));
        }
        if (kind < 11) {
            int to = random.nextInt(4) == 0 ? -1 : pick(4);
            return same(call("move", domain, type, to), () -> reeve.move(domain, type, to),
                () -> model.move(domain, type, to));
        }
        int thing = pick(things);
        return same(call("type", thing, type), () -> reeve.type(thing, type), () -> model.type(thing, type));
    }

    private boolean isSameOfThings(int kind) {
        int p = pick(processes);
        int t = pick(things);
        if (kind < 16) {
            int mode = mode();
            return same(call("mode", p, t, mode), () -> reeve.mode(p, t, mode), () -> model.mode(p, t, mode));
        }
        if (kind < 19) {
            int mask = rightsSet();
            return same(call("mask", p, t, mask), () -> reeve.mask(p, t, mask), () -> model.mask(p, t, mask));
        }
        if (kind < 28) {
            boolean isGroup = isGrouped ? random.nextInt(8) > 0 : random.nextBoolean();
            int who = user();
            int rights = random.nextInt(5) == 0 ? -1 : pick(8);
            boolean isDown = random.nextBoolean();
            return same(call("entry", p, t, isGroup, who, rights, isDown),
                () -> reeve.entry(p, t, isGroup, who, rights, isDown),
                () -> model.entry(p, t, isGroup, who, rights, isDown));
        }
        if (kind < 30) {
            int owner = user();
            return same(call("give", p, t, owner), () -> reeve.give(p, t, owner), () -> model.give(p, t, owner));
        }
        if (kind < 34) {
            int level = level();
            int categories = categories();
            return same(call("label", p, t, level, categories), () -> reeve.label(p, t, level, categories),
                () -> model.label(p, t, level, categories));
        }
        if (kind == 34 && (isQuick || random.nextInt(4) == 0)) {
            int rights = rightsSet();
            return same(call("filter", p, rights), () -> reeve.filter(p, rights), () -> model.filter(p, rights));
        }
        if (kind == 35 && random.nextInt(3) == 0) {
            int fine = pick(8);
            return same(call("bound", p, fine), () -> reeve.bound(p, fine), () -> model.bound(p, fine));
        }
        int what = pick(7);
        return same(call("about", p, what), () -> reeve.about(p, what), () -> model.about(p, what));
    }

    private boolean isSameOfActs(int kind) {
        int p = pick(processes);
        int t = pick(things);
        int right = right();
        int k = pick(tokens);
        if (kind == 58 || kind == 67 && isQuick) {
            int moments = isQuick ? 1000 : random.nextInt(3) == 0 ? pick(1001) : random.nextInt(60) + 1;
            return same(call("pass", moments), () -> reeve.pass(moments), () -> model.pass(moments));
        }
        if (kind < 44) {
            return same(call("act", p, t, right), () -> reeve.act(p, t, right), () -> model.act(p, t, right));
        }
        if (kind < 50) {
            return same(call("actBy", p, k, right), () -> reeve.actBy(p, k, right), () -> model.actBy(p, k, right));
        }
        int rights = rightsSet();
        int until = random.nextInt(3) == 0 ? pick(10001) : random.nextInt(2000);
        if (kind < 53) {
            tokens = Math.min(10, tokens + 1);
            return same(call("token", p, t, rights, until), () -> reeve.token(p, t, rights, until),
                () -> model.token(p, t, rights, until));
        }
        if (kind < 57) {
            int other = pick(processes);
            tokens = Math.min(10, tokens + 1);
            return same(call("narrow", p, k, rights, until, other), () -> reeve.narrow(p, k, rights, until, other),
                () -> model.narrow(p, k, rights, until, other));
        }
        if (kind == 57) {
            return same(call("takeBack", p, k), () -> reeve.takeBack(p, k) ? 1 : 0, () -> model.takeBack(p, k));
        }
        if (kind == 59) {
            int allowed = rightsSet();
            int refused = rightsSet();
            return same(call("watch", allowed, refused), () -> {
                reeve.watch(allowed, refused);
                return 0;
            }, () -> model.watch(allowed, refused));
        }
        return isSameOfLog(kind);
    }

    private boolean isSameOfLog(int kind) {
        int entry = pick((int) model.entries());
        if (kind < 63) {
            int what = pick(5);
            return same(call("logged", entry, what), () -> reeve.logged(entry, what), () -> model.logged(entry, what));
        }
        if (kind == 63) {
            int verdict = pick(6);
            return same(call("forge", entry, verdict), () -> reeve.forge(entry, verdict),
                () -> model.forge(entry, verdict));
        }
        if (kind == 64) {
            return same("entries()", () -> reeve.entries(), () -> model.entries());
        }
        if (kind == 65) {
            return same("lost()", () -> reeve.lost(), () -> model.lost());
        }
        return same("broken()", () -> reeve.broken(), () -> model.broken());
    }

    private boolean isSameOfQuestions(int kind) {
        int p = pick(processes);
        int t = pick(things);
        int right = right();
        int user = user();
        if (kind < 73) {
            return same(call("groups", user), () -> reeve.groups(user), () -> model.groups(user));
        }
        if (kind < 80) {
            return same(call("verdict", p, t, right), () -> reeve.verdict(p, t, right),
                () -> model.verdict(p, t, right));
        }
        if (kind < 84) {
            return same(call("verdictAnew", p, t, right), () -> reeve.verdictAnew(p, t, right),
                () -> model.verdict(p, t, right));
        }
        if (kind < 88) {
            return same(call("reach", p, t, right), () -> reeve.reach(p, t, right), () -> model.reach(p, t, right));
        }
        if (kind < 90) {
            return same(call("reachAnew", p, t, right), () -> reeve.reachAnew(p, t, right),
                () -> model.reach(p, t, right));
        }
        if (kind < 95) {
            return same(call("least", user, t, right), () -> reeve.least(user, t, right),
                () -> model.least(user, t, right));
        }
        return same(call("leastAnew", user, t, right), () -> reeve.leastAnew(user, t, right),
            () -> model.least(user, t, right));
    }
}
