import java.util.ArrayList;
import java.util.List;

/** The document told once more, in another way and without a care for speed, to be compared with the class. */
final class Model {
    static final class Entry {
        boolean isGroup;
        int who;
        int rights;
        boolean isHandedDown;

        Entry(boolean isGroup, int who, int rights, boolean isHandedDown) {
            this.isGroup = isGroup;
            this.who = who;
            this.rights = rights;
            this.isHandedDown = isHandedDown;
        }
    }

    static final class Thing {
        int owner;
        int group;
        int mode;
        int type = 0;
        int level = 0;
        int categories = 0;
        int mask = 7;
        List<Entry> entries = new ArrayList<>();
    }

    static final class Proc {
        int user;
        int domain;
        int level;
        int categories;
        int fine;
        int bounds;
        List<Integer> filters = new ArrayList<>();

        Proc copy() {
            Proc other = new Proc();
            other.user = user;
            other.domain = domain;
            other.level = level;
            other.categories = categories;
            other.fine = fine;
            other.bounds = bounds;
            other.filters = new ArrayList<>(filters);
            return other;
        }
    }

    static final class Token {
        int thing;
        int rights;
        int until;
        Proc keeps;
        int maker;
        int holder;
        Token from;
        boolean isTakenBack;
    }

    static final class Logged {
        int[] five;
        int check;
    }

    private final boolean[][] userIn = new boolean[6][6];
    private final boolean[][] groupIn = new boolean[6][6];
    private final int[][] rule = new int[4][4];
    private final int[][] move = {{-1, -1, -1, -1}, {-1, -1, -1, -1}, {-1, -1, -1, -1}, {-1, -1, -1, -1}};
    private final List<Thing> things = new ArrayList<>();
    private final List<Proc> procs = new ArrayList<>();
    private final List<Token> tokens = new ArrayList<>();
    private final List<Logged> everLogged = new ArrayList<>();
    private int now = 0;
    private int allowed = 7;
    private int refused = 7;

    // ---- what may be thrown

    private static void place(int n, int count) {
        if (n < 0 || n >= count) {
            throw new IndexOutOfBoundsException();
        }
    }

    private static void argument(boolean isFine) {
        if (!isFine) {
            throw new IllegalArgumentException();
        }
    }

    private static void may(boolean may) {
        if (!may) {
            throw new UnsupportedOperationException();
        }
    }

    private static void state(boolean isFine) {
        if (!isFine) {
            throw new IllegalStateException();
        }
    }

    private static boolean in(int n, int low, int high) {
        return low <= n && n <= high;
    }

    private static boolean isRight(int right) {
        return right == 1 || right == 2 || right == 4;
    }

    // ---- groups

    private boolean groupWithin(int inner, int outer) {
        if (inner == outer) {
            return true;
        }
        for (int g = 0; g < 6; g++) {
            if (groupIn[outer][g] && groupWithin(inner, g)) {
                return true;
            }
        }
        return false;
    }

    private boolean userWithin(int user, int group) {
        if (userIn[group][user]) {
            return true;
        }
        for (int g = 0; g < 6; g++) {
            if (groupIn[group][g] && userWithin(user, g)) {
                return true;
            }
        }
        return false;
    }

    long member(int group, boolean isGroup, int member, boolean is) {
        place(group, 6);
        place(member, 6);
        boolean[][] told = isGroup ? groupIn : userIn;
        state(!is || !isGroup || !groupWithin(group, member));
        boolean was = told[group][member];
        told[group][member] = is;
        return was ? 1 : 0;
    }

    long groups(int user) {
        place(user, 6);
        long set = 0;
        for (int g = 0; g < 6; g++) {
            set += userWithin(user, g) ? 1 << g : 0;
        }
        return set;
    }

    // ---- things

    long thing(int in, int owner, int group, int mode) {
        place(owner, 6);
        place(group, 6);
        place(in + 1, things.size() + 1);
        argument(in(mode, 0, 1023));
        state(things.size() < 12);
        Thing made = new Thing();
        made.owner = owner;
        made.group = group;
        made.mode = mode;
        if (in != -1) {
            for (Entry entry : things.get(in).entries) {
                if (entry.isHandedDown) {
                    made.entries.add(new Entry(entry.isGroup, entry.who, entry.rights, true));
                }
            }
        }
        things.add(made);
        return things.size() - 1;
    }

    long type(int thing, int type) {
        place(thing, things.size());
        argument(in(type, 0, 3));
        int before = things.get(thing).type;
        things.get(thing).type = type;
        return before;
    }

    private boolean owns(int process, int thing) {
        return procs.get(process).user == things.get(thing).owner;
    }

    private boolean fine(int process, int bit) {
        return (procs.get(process).fine >> bit) % 2 == 1;
    }

    long mode(int process, int thing, int mode) {
        place(process, procs.size());
        place(thing, things.size());
        argument(in(mode, 0, 1023));
        may(owns(process, thing) || fine(process, 1));
        int before = things.get(thing).mode;
        things.get(thing).mode = mode;
        return before;
    }

    long mask(int process, int thing, int mask) {
        place(process, procs.size());
        place(thing, things.size());
        argument(in(mask, 0, 7));
        may(owns(process, thing) || fine(process, 1));
        int before = things.get(thing).mask;
        things.get(thing).mask = mask;
        return before;
    }

    long entry(int process, int thing, boolean isGroup, int who, int rights, boolean isHandedDown) {
        place(process, procs.size());
        place(thing, things.size());
        place(who, 6);
        argument(in(rights, -1, 7));
        may(owns(process, thing) || fine(process, 1));
        List<Entry> entries = things.get(thing).entries;
        Entry found = null;
        for (Entry entry : entries) {
            if (entry.isGroup == isGroup && entry.who == who) {
                found = entry;
            }
        }
        state(rights == -1 || found != null || entries.size() < 5);
        if (found != null) {
            entries.remove(found);
        }
        if (rights != -1) {
            entries.add(new Entry(isGroup, who, rights, isHandedDown));
        }
        return found == null ? -1 : found.rights;
    }

    long give(int process, int thing, int owner) {
        place(process, procs.size());
        place(thing, things.size());
        place(owner, 6);
        int before = things.get(thing).owner;
        may(fine(process, 1) || owns(process, thing) && owner == before);
        things.get(thing).owner = owner;
        return before;
    }

    long label(int process, int thing, int level, int categories) {
        place(process, procs.size());
        place(thing, things.size());
        argument(in(level, 0, 3) && in(categories, 0, 7));
        Proc by = procs.get(process);
        may(fine(process, 2) && level <= by.level && (categories | by.categories) == by.categories);
        Thing changed = things.get(thing);
        int before = changed.level * 10 + changed.categories;
        changed.level = level;
        changed.categories = categories;
        return before;
    }

    // ---- rules, processes

    long rule(int domain, int type, int rights) {
        place(domain, 4);
        argument(in(type, 0, 3) && in(rights, 0, 7));
        int before = rule[domain][type];
        rule[domain][type] = rights;
        return before;
    }

    long move(int domain, int type, int to) {
        place(domain, 4);
        place(to + 1, 5);
        argument(in(type, 0, 3));
        int before = move[domain][type];
        move[domain][type] = to;
        return before;
    }

    long process(int user, int domain, int level, int categories, int fine, int bounds) {
        place(user, 6);
        place(domain, 4);
        argument(in(level, 0, 3) && in(categories, 0, 7) && in(fine, 0, 7) && in(bounds, 0, 7));
        argument((fine | bounds) == bounds);
        state(procs.size() < 8);
        Proc made = new Proc();
        made.user = user;
        made.domain = domain;
        made.level = level;
        made.categories = categories;
        made.fine = fine;
        made.bounds = bounds;
        procs.add(made);
        return procs.size() - 1;
    }

    private static int through(Proc proc) {
        int rights = 7;
        for (int filter : proc.filters) {
            rights &= filter;
        }
        return rights;
    }

    long filter(int process, int rights) {
        place(process, procs.size());
        argument(in(rights, 0, 7));
        state(procs.get(process).filters.size() < 3);
        procs.get(process).filters.add(rights);
        return through(procs.get(process));
    }

    long bound(int process, int fine) {
        place(process, procs.size());
        argument(in(fine, 0, 7));
        Proc proc = procs.get(process);
        for (int bit = 1; bit <= 4; bit *= 2) {
            if ((fine & bit) != 0) {
                proc.bounds -= proc.bounds & bit;
                proc.fine -= proc.fine & bit;
            }
        }
        return proc.bounds;
    }

    long about(int process, int what) {
        place(process, procs.size());
        argument(in(what, 0, 6));
        Proc proc = procs.get(process);
        int[] all = {proc.user, proc.domain, proc.level, proc.categories, proc.fine, proc.bounds, through(proc)};
        return all[what];
    }

    // ---- verdicts

    private boolean modesAllow(Thing thing, int user, int right) {
        List<Boolean> sources = new ArrayList<>();
        if (user == thing.owner) {
            return (thing.mode / 64 & right) != 0;
        }
        for (Entry entry : thing.entries) {
            if (!entry.isGroup && entry.who == user) {
                return (entry.rights & thing.mask & right) != 0;
            }
            if (entry.isGroup && userWithin(user, entry.who)) {
                sources.add((entry.rights & thing.mask & right) != 0);
            }
        }
        if (userWithin(user, thing.group)) {
            int rights = thing.mode / 8 % 8;
            sources.add(((thing.entries.isEmpty() ? rights : rights & thing.mask) & right) != 0);
        }
        return sources.isEmpty() ? (thing.mode % 8 & right) != 0 : sources.contains(true);
    }

    private static boolean someRun(Thing thing) {
        boolean some = (thing.mode & 0444) != 0;
        for (Entry entry : thing.entries) {
            some |= entry.rights >= 4;
        }
        return some;
    }

    private int verdictFor(Proc proc, Thing thing, int right) {
        boolean passes = proc.fine % 2 == 1 && (right != 4 || someRun(thing));
        if (!passes && !modesAllow(thing, proc.user, right)) {
            return 1;
        }
        boolean above = proc.level >= thing.level && (proc.categories | thing.categories) == proc.categories;
        boolean below = thing.level >= proc.level && (proc.categories | thing.categories) == thing.categories;
        if (!(right == 2 ? below : above)) {
            return 2;
        }
        if ((rule[proc.domain][thing.type] & right) == 0) {
            return 3;
        }
        return (through(proc) & right) == 0 ? 4 : 0;
    }

    private void runThing(Proc proc, Thing thing) {
        if (move[proc.domain][thing.type] != -1) {
            proc.domain = move[proc.domain][thing.type];
        }
        if (thing.mode >= 512) {
            proc.user = thing.owner;
            proc.fine = proc.user == 0 ? proc.bounds : 0;
        }
    }

    long verdict(int process, int thing, int right) {
        place(process, procs.size());
        place(thing, things.size());
        argument(isRight(right));
        return verdictFor(procs.get(process), things.get(thing), right);
    }

    // ---- acts, tokens

    private void log(int process, int thing, int right, int verdict) {
        if (((verdict == 0 ? allowed : refused) & right) == 0) {
            return;
        }
        Logged logged = new Logged();
        logged.five = new int[] {now, process, thing, right, verdict};
        logged.check = checkOf(everLogged.size(), logged.five);
        everLogged.add(logged);
    }

    private int checkOf(int at, int[] five) {
        int check = (at == 0 ? 17 : everLogged.get(at - 1).check) * 31;
        for (int n : five) {
            check = check * 31 + n;
        }
        return check;
    }

    long act(int process, int thing, int right) {
        int verdict = (int) verdict(process, thing, right);
        log(process, thing, right, verdict);
        if (verdict == 0 && right == 4) {
            runThing(procs.get(process), things.get(thing));
        }
        return verdict;
    }

    private boolean isThere(Token token) {
        return token == null || !token.isTakenBack && now <= token.until && isThere(token.from);
    }

    long actBy(int process, int token, int right) {
        place(process, procs.size());
        place(token, tokens.size());
        argument(isRight(right));
        Token used = tokens.get(token);
        may(used.holder == process);
        Proc stand = procs.get(process).copy();
        stand.user = used.keeps.user;
        stand.domain = used.keeps.domain;
        stand.fine = 0;
        boolean lets = (used.rights & right) != 0 && isThere(used);
        int verdict = lets ? verdictFor(stand, things.get(used.thing), right) : 5;
        log(process, used.thing, right, verdict);
        return verdict;
    }

    long token(int process, int thing, int rights, int until) {
        place(process, procs.size());
        place(thing, things.size());
        argument(in(rights, 1, 7) && in(until, now, 10000));
        state(tokens.size() < 10);
        return put(thing, rights, until, procs.get(process).copy(), process, process, null);
    }

    long narrow(int process, int token, int rights, int until, int other) {
        place(process, procs.size());
        place(token, tokens.size());
        place(other, procs.size());
        argument(in(rights, 1, 7) && in(until, now, 10000));
        Token from = tokens.get(token);
        argument((rights | from.rights) == from.rights && until <= from.until);
        may(from.holder == process);
        state(tokens.size() < 10);
        return put(from.thing, rights, until, from.keeps, process, other, from);
    }

    private long put(int thing, int rights, int until, Proc keeps, int maker, int holder, Token from) {
        Token made = new Token();
        made.thing = thing;
        made.rights = rights;
        made.until = until;
        made.keeps = keeps;
        made.maker = maker;
        made.holder = holder;
        made.from = from;
        tokens.add(made);
        return tokens.size() - 1;
    }

    long takeBack(int process, int token) {
        place(process, procs.size());
        place(token, tokens.size());
        may(tokens.get(token).maker == process);
        boolean was = isThere(tokens.get(token));
        tokens.get(token).isTakenBack = true;
        return was ? 1 : 0;
    }

    long pass(int moments) {
        argument(in(moments, 1, 1000));
        state(now + moments <= 10000);
        now += moments;
        return now;
    }

    // ---- the log

    long watch(int nextAllowed, int nextRefused) {
        argument(in(nextAllowed, 0, 7) && in(nextRefused, 0, 7));
        allowed = nextAllowed;
        refused = nextRefused;
        return 0;
    }

    long entries() {
        return Math.min(20, everLogged.size());
    }

    long lost() {
        return Math.max(0, everLogged.size() - 20);
    }

    long logged(int entry, int what) {
        place(entry, (int) entries());
        argument(in(what, 0, 4));
        return everLogged.get((int) lost() + entry).five[what];
    }

    long forge(int entry, int verdict) {
        place(entry, (int) entries());
        argument(in(verdict, 0, 5));
        int[] five = everLogged.get((int) lost() + entry).five;
        int before = five[4];
        five[4] = verdict;
        return before;
    }

    long broken() {
        for (int i = (int) lost(); i < everLogged.size(); i++) {
            if (checkOf(i, everLogged.get(i).five) != everLogged.get(i).check) {
                return i - lost();
            }
        }
        return -1;
    }

    // ---- questions

    long reach(int process, int thing, int right) {
        place(process, procs.size());
        place(thing, things.size());
        argument(isRight(right));
        for (int most = 0; most <= 3; most++) {
            if (reaches(procs.get(process), things.get(thing), right, most)) {
                return most;
            }
        }
        return -1;
    }

    private boolean reaches(Proc proc, Thing goal, int right, int most) {
        if (verdictFor(proc, goal, right) == 0) {
            return true;
        }
        for (Thing thing : things) {
            if (most > 0 && verdictFor(proc, thing, 4) == 0) {
                Proc later = proc.copy();
                runThing(later, thing);
                if (reaches(later, goal, right, most - 1)) {
                    return true;
                }
            }
        }
        return false;
    }

    long least(int user, int thing, int right) {
        place(user, 6);
        place(thing, things.size());
        argument(isRight(right));
        int most = 0;
        while (!canForbid(things.get(thing), user, right, 0, most)) {
            most++;
        }
        return most;
    }

    /** Whether most rights, from the given place on, could go so that it is forbidden. */
    private boolean canForbid(Thing thing, int user, int right, int from, int most) {
        if (!modesAllow(thing, user, right)) {
            return true;
        }
        for (int place = from; most > 0 && place < 3 + thing.entries.size(); place++) {
            int mode = thing.mode;
            Entry entry = place < 3 ? null : thing.entries.get(place - 3);
            int rights = entry == null ? 0 : entry.rights;
            if (entry == null) {
                thing.mode &= ~(right << 3 * place);
            } else {
                entry.rights &= ~right;
            }
            boolean can = canForbid(thing, user, right, place + 1, most - 1);
            thing.mode = mode;
            if (entry != null) {
                entry.rights = rights;
            }
            if (can) {
                return true;
            }
        }
        return false;
    }
}
