/** Rights and audit of a system, as ../shared/DOC.md promises them. */
public final class AuditgateReeve {
    public static final int NONE = -1;
    public static final int LOOK = 1, CHANGE = 2, RUN = 4;

    private static final int USERS = 6;
    private static final int GROUPS = 6;
    private static final int SUBJECTS = USERS + GROUPS;
    private static final int DOMAINS = 4;
    private static final int TYPES = 4;
    private static final int MOST_THINGS = 12;
    private static final int MOST_ENTRIES = 5;
    private static final int MOST_PROCESSES = 8;
    private static final int MOST_FILTERS = 3;
    private static final int MOST_TOKENS = 10;
    private static final int MOST_RUNS = 3;
    private static final int MOST_LOGGED = 20;

    private static final int HIGHEST_LEVEL = 3;
    private static final int HIGHEST_MODE = 1023;
    private static final int LAST_MOMENT = 10000;
    private static final int LONGEST_PASS = 1000;
    private static final int ALL = 7;

    private static final int OWNER_SHIFT = 6;
    private static final int GROUP_SHIFT = 3;
    private static final int OTHERS_SHIFT = 0;
    private static final int BECOME_OWNER = 512;

    private static final int FINE_PASS_BY = 1;
    private static final int FINE_CHANGE_OTHERS = 2;
    private static final int FINE_LABEL = 4;

    private static final int ALLOWED = 0;
    private static final int BY_MODES = 1;
    private static final int BY_LABELS = 2;
    private static final int BY_RULES = 3;
    private static final int BY_FILTERS = 4;
    private static final int BY_TOKEN = 5;

    private static final int ABOUT_LAST = 6;

    private final Membership membership;
    private final Rules rules;
    private final Log log;
    private final Thing[] things;
    private final Actor[] actors;
    private final Token[] tokens;
    private int thingCount;
    private int actorCount;
    private int tokenCount;
    private int now;
    private int watchedAllowed;
    private int watchedRefused;

    // Rows that the questions try things on, made once because calls may make next to nothing.
    private final Actor[] trials;
    private final Thing bareThing;
    private final int[] removable;
    private final Search search;

    public AuditgateReeve() {
        membership = new Membership();
        rules = new Rules();
        log = new Log();
        things = new Thing[MOST_THINGS];
        for (int i = 0; i < things.length; i++) {
            things[i] = new Thing();
        }
        actors = new Actor[MOST_PROCESSES];
        for (int i = 0; i < actors.length; i++) {
            actors[i] = new Actor();
        }
        tokens = new Token[MOST_TOKENS];
        for (int i = 0; i < tokens.length; i++) {
            tokens[i] = new Token();
        }
        trials = new Actor[MOST_RUNS + 1];
        for (int i = 0; i < trials.length; i++) {
            trials[i] = new Actor();
        }
        bareThing = new Thing();
        removable = new int[3 + SUBJECTS];
        search = new Search();
        watchedAllowed = ALL;
        watchedRefused = ALL;
    }

    // ---- groups

    public boolean member(int group, boolean isGroup, int member, boolean is)
            throws IndexOutOfBoundsException, IllegalStateException {
        needPlace(group, GROUPS);
        needPlace(member, isGroup ? GROUPS : USERS);
        if (is && isGroup && membership.isWithin(group, member)) {
            throw new IllegalStateException("a group would be its own member");
        }
        boolean was = membership.isTold(group, isGroup, member);
        membership.tell(group, isGroup, member, is);
        return was;
    }

    public int groups(int user) throws IndexOutOfBoundsException {
        needPlace(user, USERS);
        return membership.groupsOf(user);
    }

    // ---- things, by processes or from outside

    public int thing(int in, int owner, int group, int mode)
            throws IndexOutOfBoundsException, IllegalArgumentException, IllegalStateException {
        needPlace(owner, USERS);
        needPlace(group, GROUPS);
        Thing outer = in == NONE ? null : needThing(in);
        needRange(mode, 0, HIGHEST_MODE);
        needRoom(thingCount, things.length);
        Thing made = things[thingCount];
        made.owner = owner;
        made.group = group;
        made.mode = mode;
        if (outer != null) {
            made.inherit(outer);
        }
        thingCount++;
        return thingCount - 1;
    }

    public int type(int thing, int type) throws IndexOutOfBoundsException, IllegalArgumentException {
        Thing changed = needThing(thing);
        needRange(type, 0, TYPES - 1);
        int before = changed.type;
        changed.type = type;
        return before;
    }

    public int mode(int process, int thing, int mode)
            throws IndexOutOfBoundsException, IllegalArgumentException, UnsupportedOperationException {
        Actor by = needActor(process);
        Thing changed = needThing(thing);
        needRange(mode, 0, HIGHEST_MODE);
        needPower(mayChange(by, changed));
        int before = changed.mode;
        changed.mode = mode;
        return before;
    }

    public int mask(int process, int thing, int mask)
            throws IndexOutOfBoundsException, IllegalArgumentException, UnsupportedOperationException {
        Actor by = needActor(process);
        Thing changed = needThing(thing);
        needRange(mask, 0, ALL);
        needPower(mayChange(by, changed));
        int before = changed.mask;
        changed.mask = mask;
        return before;
    }

    public int entry(int process, int thing, boolean isGroup, int who, int rights, boolean isHandedDown)
            throws IndexOutOfBoundsException, IllegalArgumentException, UnsupportedOperationException, IllegalStateException {
        Actor by = needActor(process);
        Thing changed = needThing(thing);
        needPlace(who, isGroup ? GROUPS : USERS);
        needRange(rights, NONE, ALL);
        needPower(mayChange(by, changed));
        int subject = isGroup ? USERS + who : who;
        int before = changed.rightsOf(subject);
        if (rights != NONE && before == NONE) {
            needRoom(changed.entryCount, MOST_ENTRIES);
        }
        changed.putEntry(subject, rights, isHandedDown);
        return before;
    }

    public int give(int process, int thing, int owner) throws IndexOutOfBoundsException, UnsupportedOperationException {
        Actor by = needActor(process);
        Thing changed = needThing(thing);
        needPlace(owner, USERS);
        needPower(owner == changed.owner ? mayChange(by, changed) : by.isFine(FINE_CHANGE_OTHERS));
        int before = changed.owner;
        changed.owner = owner;
        return before;
    }

    public int label(int process, int thing, int level, int categories)
            throws IndexOutOfBoundsException, IllegalArgumentException, UnsupportedOperationException {
        Actor by = needActor(process);
        Thing changed = needThing(thing);
        needRange(level, 0, HIGHEST_LEVEL);
        needRange(categories, 0, ALL);
        needPower(by.isFine(FINE_LABEL) && dominates(by.level, by.categories, level, categories));
        int before = 10 * changed.level + changed.categories;
        changed.level = level;
        changed.categories = categories;
        return before;
    }

    // ---- rules, processes

    public int rule(int domain, int type, int rights) throws IndexOutOfBoundsException, IllegalArgumentException {
        needPlace(domain, DOMAINS);
        needRange(type, 0, TYPES - 1);
        needRange(rights, 0, ALL);
        int before = rules.rightsOf(domain, type);
        rules.setRights(domain, type, rights);
        return before;
    }

    public int move(int domain, int type, int to) throws IndexOutOfBoundsException, IllegalArgumentException {
        needPlace(domain, DOMAINS);
        if (to != NONE) {
            needPlace(to, DOMAINS);
        }
        needRange(type, 0, TYPES - 1);
        int before = rules.moveOf(domain, type);
        rules.setMove(domain, type, to);
        return before;
    }

    public int process(int user, int domain, int level, int categories, int fine, int bounds)
            throws IndexOutOfBoundsException, IllegalArgumentException, IllegalStateException {
        needPlace(user, USERS);
        needPlace(domain, DOMAINS);
        needRange(level, 0, HIGHEST_LEVEL);
        needRange(categories, 0, ALL);
        needRange(fine, 0, ALL);
        needRange(bounds, 0, ALL);
        needSubset(fine, bounds);
        needRoom(actorCount, actors.length);
        Actor made = actors[actorCount];
        made.user = user;
        made.domain = domain;
        made.level = level;
        made.categories = categories;
        made.fine = fine;
        made.bounds = bounds;
        actorCount++;
        return actorCount - 1;
    }

    public int filter(int process, int rights)
            throws IndexOutOfBoundsException, IllegalArgumentException, IllegalStateException {
        Actor changed = needActor(process);
        needRange(rights, 0, ALL);
        needRoom(changed.filterCount, MOST_FILTERS);
        changed.addFilter(rights);
        return changed.letPass;
    }

    public int bound(int process, int fine) throws IndexOutOfBoundsException, IllegalArgumentException {
        Actor changed = needActor(process);
        needRange(fine, 0, ALL);
        changed.bounds &= ~fine;
        changed.fine &= ~fine;
        return changed.bounds;
    }

    public int about(int process, int what) throws IndexOutOfBoundsException, IllegalArgumentException {
        Actor told = needActor(process);
        needRange(what, 0, ABOUT_LAST);
        switch (what) {
            case 0:
                return told.user;
            case 1:
                return told.domain;
            case 2:
                return told.level;
            case 3:
                return told.categories;
            case 4:
                return told.fine;
            case 5:
                return told.bounds;
            default:
                return told.letPass;
        }
    }

    // ---- acts

    public int act(int process, int thing, int right) throws IndexOutOfBoundsException, IllegalArgumentException {
        Actor by = needActor(process);
        Thing on = needThing(thing);
        needRight(right);
        int verdict = judge(by, on, right);
        note(process, thing, right, verdict);
        if (verdict == ALLOWED && right == RUN) {
            carryOutRun(by, on);
        }
        return verdict;
    }

    public int actBy(int process, int token, int right)
            throws IndexOutOfBoundsException, IllegalArgumentException, UnsupportedOperationException {
        Actor by = needActor(process);
        Token used = needToken(token);
        needRight(right);
        needPower(used.holder == process);
        int verdict = judgeToken(by, token, right);
        note(process, used.thing, right, verdict);
        return verdict;
    }

    public int token(int process, int thing, int rights, int until)
            throws IndexOutOfBoundsException, IllegalArgumentException, IllegalStateException {
        Actor by = needActor(process);
        needThing(thing);
        needRange(rights, 1, ALL);
        needRange(until, now, LAST_MOMENT);
        needRoom(tokenCount, tokens.length);
        Token made = tokens[tokenCount];
        made.thing = thing;
        made.user = by.user;
        made.domain = by.domain;
        made.from = NONE;
        return handOut(made, rights, until, process, process);
    }

    public int narrow(int process, int token, int rights, int until, int other)
            throws IndexOutOfBoundsException, IllegalArgumentException, UnsupportedOperationException, IllegalStateException {
        needActor(process);
        Token from = needToken(token);
        needActor(other);
        needRange(rights, 1, ALL);
        needSubset(rights, from.rights);
        // No token lasts beyond the last moment, so neither does a narrower one.
        needRange(until, now, from.until);
        needPower(from.holder == process);
        needRoom(tokenCount, tokens.length);
        Token made = tokens[tokenCount];
        made.thing = from.thing;
        made.user = from.user;
        made.domain = from.domain;
        made.from = token;
        return handOut(made, rights, until, process, other);
    }

    public boolean takeBack(int process, int token) throws IndexOutOfBoundsException, UnsupportedOperationException {
        needActor(process);
        Token taken = needToken(token);
        needPower(taken.maker == process);
        boolean was = isThereStill(token);
        taken.isTakenBack = true;
        return was;
    }

    public int pass(int moments) throws IllegalArgumentException, IllegalStateException {
        needRange(moments, 1, LONGEST_PASS);
        if (now + moments > LAST_MOMENT) {
            throw new IllegalStateException("that is beyond the last moment");
        }
        now += moments;
        return now;
    }

    // ---- the log

    public void watch(int allowed, int refused) throws IllegalArgumentException {
        needRange(allowed, 0, ALL);
        needRange(refused, 0, ALL);
        watchedAllowed = allowed;
        watchedRefused = refused;
    }

    public int entries() {
        return log.count;
    }

    public int lost() {
        return log.lostCount;
    }

    public int logged(int entry, int what) throws IndexOutOfBoundsException, IllegalArgumentException {
        needPlace(entry, log.count);
        needRange(what, 0, Log.VERDICT);
        return log.read(entry, what);
    }

    public int forge(int entry, int verdict) throws IndexOutOfBoundsException, IllegalArgumentException {
        needPlace(entry, log.count);
        needRange(verdict, 0, BY_TOKEN);
        int before = log.read(entry, Log.VERDICT);
        log.write(entry, Log.VERDICT, verdict);
        return before;
    }

    public int broken() {
        return log.firstBroken();
    }

    // ---- questions

    public int verdict(int process, int thing, int right) throws IndexOutOfBoundsException, IllegalArgumentException {
        Actor by = needActor(process);
        Thing on = needThing(thing);
        needRight(right);
        return judge(by, on, right);
    }

    public int verdictAnew(int process, int thing, int right)
            throws IndexOutOfBoundsException, IllegalArgumentException {
        Actor by = needActor(process);
        Thing on = needThing(thing);
        needRight(right);
        membership.findAnew();
        return judgeAnew(by, on, right);
    }

    public int reach(int process, int thing, int right) throws IndexOutOfBoundsException, IllegalArgumentException {
        Actor by = needActor(process);
        Thing goal = needThing(thing);
        needRight(right);
        return fewestRuns(by, goal, right);
    }

    public int reachAnew(int process, int thing, int right) throws IndexOutOfBoundsException, IllegalArgumentException {
        Actor by = needActor(process);
        Thing goal = needThing(thing);
        needRight(right);
        membership.findAnew();
        trials[0].copyFrom(by);
        return fewestOfRows(0, goal, right);
    }

    public int least(int user, int thing, int right) throws IndexOutOfBoundsException, IllegalArgumentException {
        needPlace(user, USERS);
        Thing on = needThing(thing);
        needRight(right);
        return on.countWays(user, membership.groupsOf(user), right);
    }

    public int leastAnew(int user, int thing, int right) throws IndexOutOfBoundsException, IllegalArgumentException {
        needPlace(user, USERS);
        Thing on = needThing(thing);
        needRight(right);
        membership.findAnew();
        return smallestSet(on, user, right);
    }

    // ---- what calls need

    private static void needPlace(int place, int count) {
        if (place < 0 || place >= count) {
            throw new IndexOutOfBoundsException("there is no such one");
        }
    }

    private static void needRange(int value, int lowest, int highest) {
        if (value < lowest || value > highest) {
            throw new IllegalArgumentException("an argument is out of its range");
        }
    }

    private static void needSubset(int part, int whole) {
        if ((part & ~whole) != 0) {
            throw new IllegalArgumentException("a set goes beyond the one that bounds it");
        }
    }

    private static void needRight(int right) {
        if (right != LOOK && right != CHANGE && right != RUN) {
            throw new IllegalArgumentException("that is not one right");
        }
    }

    private static void needPower(boolean may) {
        if (!may) {
            throw new UnsupportedOperationException("the process may not do it");
        }
    }

    private static void needRoom(int count, int most) {
        if (count >= most) {
            throw new IllegalStateException("there are as many as there can be");
        }
    }

    private Thing needThing(int thing) {
        needPlace(thing, thingCount);
        return things[thing];
    }

    private Actor needActor(int process) {
        needPlace(process, actorCount);
        return actors[process];
    }

    private Token needToken(int token) {
        needPlace(token, tokenCount);
        return tokens[token];
    }

    private static boolean mayChange(Actor by, Thing changed) {
        return by.user == changed.owner || by.isFine(FINE_CHANGE_OTHERS);
    }

    private static boolean dominates(int level, int categories, int lowerLevel, int fewerCategories) {
        return level >= lowerLevel && (fewerCategories & ~categories) == 0;
    }

    // ---- verdicts

    private int judge(Actor by, Thing on, int right) {
        boolean passesBy = by.isFine(FINE_PASS_BY) && (right != RUN || on.hasSomeRun());
        if (!passesBy && on.countWays(by.user, membership.groupsOf(by.user), right) == 0) {
            return BY_MODES;
        }
        return judgeBeyondModes(by, on, right, by.letPass);
    }

    private int judgeAnew(Actor by, Thing on, int right) {
        boolean passesBy = by.isFine(FINE_PASS_BY) && (right != RUN || on.hasSomeRun());
        if (!passesBy && !on.allowsAnew(by.user, membership.groupsFoundAnew(by.user), right)) {
            return BY_MODES;
        }
        return judgeBeyondModes(by, on, right, by.letPassAnew());
    }

    private int judgeBeyondModes(Actor by, Thing on, int right, int letPass) {
        boolean labelsAllow = right == CHANGE
            ? dominates(on.level, on.categories, by.level, by.categories)
            : dominates(by.level, by.categories, on.level, on.categories);
        if (!labelsAllow) {
            return BY_LABELS;
        }
        if ((rules.rightsOf(by.domain, on.type) & right) == 0) {
            return BY_RULES;
        }
        return (letPass & right) == 0 ? BY_FILTERS : ALLOWED;
    }

    private void carryOutRun(Actor by, Thing ran) {
        int to = rules.moveOf(by.domain, ran.type);
        if (to != NONE) {
            by.domain = to;
        }
        if ((ran.mode & BECOME_OWNER) != 0) {
            by.user = ran.owner;
            by.fine = ran.owner == 0 ? by.bounds : 0;
        }
    }

    private void note(int process, int thing, int right, int verdict) {
        int watched = verdict == ALLOWED ? watchedAllowed : watchedRefused;
        if ((watched & right) != 0) {
            log.add(now, process, thing, right, verdict);
        }
    }

    // ---- tokens

    private int handOut(Token made, int rights, int until, int maker, int holder) {
        made.rights = rights;
        made.until = until;
        made.maker = maker;
        made.holder = holder;
        tokenCount++;
        return tokenCount - 1;
    }

    private boolean isThereStill(int token) {
        int at = token;
        for (int i = 0; i < tokens.length && at >= 0 && at < tokenCount; i++) {
            if (tokens[at].isTakenBack || now > tokens[at].until) {
                return false;
            }
            at = tokens[at].from;
        }
        return true;
    }

    private int judgeToken(Actor by, int token, int right) {
        Token used = needToken(token);
        if ((used.rights & right) == 0 || !isThereStill(token)) {
            return BY_TOKEN;
        }
        Actor stand = trials[0];
        stand.copyFrom(by);
        stand.user = used.user;
        stand.domain = used.domain;
        stand.fine = 0;
        return judge(stand, needThing(used.thing), right);
    }

    // ---- how far one could come

    private int fewestRuns(Actor from, Thing goal, int right) {
        Actor trial = trials[0];
        trial.copyFrom(from);
        search.clear();
        search.add(trial, 0);
        for (int i = 0; i < Search.STATES && i < search.count; i++) {
            int runs = search.restore(trial, i);
            if (judge(trial, goal, right) == ALLOWED) {
                return runs;
            }
            if (runs < MOST_RUNS) {
                addRunsFrom(i, runs + 1);
            }
        }
        return NONE;
    }

    private void addRunsFrom(int place, int runs) {
        Actor trial = trials[1];
        trial.copyFrom(trials[0]);
        for (int i = 0; i < thingCount; i++) {
            search.restore(trial, place);
            if (judge(trial, things[i], RUN) == ALLOWED) {
                carryOutRun(trial, things[i]);
                search.add(trial, runs);
            }
        }
    }

    private int fewestOfRows(int runs, Thing goal, int right) {
        if (runs < 0 || runs > MOST_RUNS) {
            return NONE;
        }
        if (judgeAnew(trials[runs], goal, right) == ALLOWED) {
            return runs;
        }
        int fewest = NONE;
        for (int i = 0; i < thingCount; i++) {
            int found = fewestBehind(runs, things[i], goal, right);
            if (found != NONE && (fewest == NONE || found < fewest)) {
                fewest = found;
            }
        }
        return fewest;
    }

    private int fewestBehind(int runs, Thing ran, Thing goal, int right) {
        if (runs < 0 || runs >= MOST_RUNS || judgeAnew(trials[runs], ran, RUN) != ALLOWED) {
            return NONE;
        }
        Actor next = trials[runs + 1];
        next.copyFrom(trials[runs]);
        carryOutRun(next, ran);
        return fewestOfRows(runs + 1, goal, right);
    }

    // ---- the least change that forbids something

    private int smallestSet(Thing on, int user, int right) {
        int groups = membership.groupsFoundAnew(user);
        int count = listRemovable(on, right);
        int smallest = count;
        for (int set = 0; set < 1 << count; set++) {
            int size = Integer.bitCount(set);
            if (size < smallest) {
                bareThing.copyFrom(on);
                for (int i = 0; i < count; i++) {
                    if ((set >> i & 1) != 0) {
                        bareThing.takeRight(removable[i], right);
                    }
                }
                if (!bareThing.allowsAnew(user, groups, right)) {
                    smallest = size;
                }
            }
        }
        return smallest;
    }

    private int listRemovable(Thing on, int right) {
        int count = 0;
        for (int place = 0; place < removable.length; place++) {
            if (on.holdsRight(place, right)) {
                removable[count] = place;
                count++;
            }
        }
        return count;
    }

    /** Who is in which group: what was told, and for each user the groups kept up to date. */
    private static final class Membership {
        final int[] users = new int[GROUPS];
        final int[] innerGroups = new int[GROUPS];
        final int[] kept = new int[USERS];
        final int[] foundAnew = new int[USERS];

        boolean isTold(int group, boolean isGroup, int member) {
            if (group < 0 || group >= GROUPS) {
                return false;
            }
            int members = isGroup ? innerGroups[group] : users[group];
            return (members >> member & 1) != 0;
        }

        void tell(int group, boolean isGroup, int member, boolean is) {
            if (group < 0 || group >= GROUPS) {
                return;
            }
            int[] changed = isGroup ? innerGroups : users;
            int bit = 1 << member;
            changed[group] = is ? changed[group] | bit : changed[group] & ~bit;
            for (int user = 0; user < USERS; user++) {
                kept[user] = groupsUpFrom(user);
            }
        }

        int groupsOf(int user) {
            return user < 0 || user >= USERS ? 0 : kept[user];
        }

        int groupsFoundAnew(int user) {
            return user < 0 || user >= USERS ? 0 : foundAnew[user];
        }

        boolean isWithin(int inner, int outer) {
            return (groupsDownFrom(outer) >> inner & 1) != 0;
        }

        /** Goes down from each group, where the kept sets go up from each user. */
        void findAnew() {
            for (int user = 0; user < USERS; user++) {
                foundAnew[user] = 0;
            }
            for (int group = 0; group < GROUPS; group++) {
                int within = groupsDownFrom(group);
                for (int inner = 0; inner < GROUPS; inner++) {
                    for (int user = 0; user < USERS; user++) {
                        if ((within >> inner & 1) != 0 && (users[inner] >> user & 1) != 0) {
                            foundAnew[user] |= 1 << group;
                        }
                    }
                }
            }
        }

        private int groupsUpFrom(int user) {
            int found = 0;
            for (int group = 0; group < GROUPS; group++) {
                found |= (users[group] >> user & 1) << group;
            }
            // No chain of groups is longer than there are groups.
            for (int round = 0; round < GROUPS; round++) {
                for (int group = 0; group < GROUPS; group++) {
                    if ((innerGroups[group] & found) != 0) {
                        found |= 1 << group;
                    }
                }
            }
            return found;
        }

        private int groupsDownFrom(int group) {
            int found = 1 << group;
            for (int round = 0; round < GROUPS; round++) {
                for (int inner = 0; inner < GROUPS; inner++) {
                    if ((found >> inner & 1) != 0) {
                        found |= innerGroups[inner];
                    }
                }
            }
            return found;
        }
    }

    /** What domains may do on types, and where they go. */
    private static final class Rules {
        final int[] rights = new int[DOMAINS * TYPES];
        final int[] moves = new int[DOMAINS * TYPES];

        Rules() {
            for (int i = 0; i < moves.length; i++) {
                moves[i] = NONE;
            }
        }

        int rightsOf(int domain, int type) {
            return isCell(domain, type) ? rights[domain * TYPES + type] : 0;
        }

        void setRights(int domain, int type, int allowed) {
            if (isCell(domain, type)) {
                rights[domain * TYPES + type] = allowed;
            }
        }

        int moveOf(int domain, int type) {
            return isCell(domain, type) ? moves[domain * TYPES + type] : NONE;
        }

        void setMove(int domain, int type, int to) {
            if (isCell(domain, type)) {
                moves[domain * TYPES + type] = to;
            }
        }

        private static boolean isCell(int domain, int type) {
            return domain >= 0 && domain < DOMAINS && type >= 0 && type < TYPES;
        }
    }

    /** A thing; its entries stand by subject: the users first, then the groups. */
    private static final class Thing {
        int owner;
        int group;
        int mode;
        int type;
        int level;
        int categories;
        int mask = ALL;
        int entryCount;
        int handedDown;
        final int[] entryRights = new int[SUBJECTS];

        Thing() {
            for (int i = 0; i < entryRights.length; i++) {
                entryRights[i] = NONE;
            }
        }

        int rightsOf(int subject) {
            return subject < 0 || subject >= SUBJECTS ? NONE : entryRights[subject];
        }

        void putEntry(int subject, int rights, boolean isHandedDown) {
            if (subject < 0 || subject >= SUBJECTS) {
                return;
            }
            entryCount += (rights == NONE ? 0 : 1) - (entryRights[subject] == NONE ? 0 : 1);
            entryRights[subject] = rights;
            handedDown &= ~(1 << subject);
            if (isHandedDown && rights != NONE) {
                handedDown |= 1 << subject;
            }
        }

        void inherit(Thing outer) {
            for (int subject = 0; subject < SUBJECTS; subject++) {
                if ((outer.handedDown >> subject & 1) != 0) {
                    putEntry(subject, outer.entryRights[subject], true);
                }
            }
        }

        void copyFrom(Thing other) {
            owner = other.owner;
            group = other.group;
            mode = other.mode;
            type = other.type;
            level = other.level;
            categories = other.categories;
            mask = other.mask;
            entryCount = other.entryCount;
            handedDown = other.handedDown;
            for (int i = 0; i < SUBJECTS; i++) {
                entryRights[i] = other.entryRights[i];
            }
        }

        boolean hasSomeRun() {
            int some = mode >> OWNER_SHIFT | mode >> GROUP_SHIFT | mode >> OTHERS_SHIFT;
            for (int i = 0; i < SUBJECTS; i++) {
                some |= entryRights[i] == NONE ? 0 : entryRights[i];
            }
            return (some & RUN) != 0;
        }

        /** How many rights of mode and entries give the right to a user, each by itself. */
        int countWays(int user, int groups, int right) {
            if (user == owner) {
                return oneIfIn(mode >> OWNER_SHIFT, right);
            }
            int own = rightsOf(user);
            if (own != NONE) {
                return oneIfIn(own & mask, right);
            }
            boolean isInGroup = (groups >> group & 1) != 0;
            int ways = 0;
            boolean isAmongGroups = isInGroup;
            for (int i = 0; i < GROUPS; i++) {
                int rights = entryRights[USERS + i];
                if (rights != NONE && (groups >> i & 1) != 0) {
                    isAmongGroups = true;
                    ways += oneIfIn(rights & mask, right);
                }
            }
            if (isInGroup) {
                ways += oneIfIn(mode >> GROUP_SHIFT & (entryCount > 0 ? mask : ALL), right);
            }
            return isAmongGroups ? ways : oneIfIn(mode >> OTHERS_SHIFT, right);
        }

        /** The same question as a yes or no, found entry by entry and without what is kept of them. */
        boolean allowsAnew(int user, int groups, int right) {
            int groupRights = 0;
            int groupMask = ALL;
            int own = NONE;
            boolean isAmongGroups = false;
            for (int subject = 0; subject < SUBJECTS; subject++) {
                if (entryRights[subject] != NONE) {
                    groupMask = mask;
                    if (subject == user) {
                        own = entryRights[subject];
                    }
                    if (subject >= USERS && (groups >> subject - USERS & 1) != 0) {
                        isAmongGroups = true;
                        groupRights |= entryRights[subject] & mask;
                    }
                }
            }
            if ((groups >> group & 1) != 0) {
                isAmongGroups = true;
                groupRights |= mode >> GROUP_SHIFT & groupMask;
            }
            int counting = isAmongGroups ? groupRights : mode >> OTHERS_SHIFT;
            if (own != NONE) {
                counting = own & mask;
            }
            if (user == owner) {
                counting = mode >> OWNER_SHIFT;
            }
            return (counting & right) != 0;
        }

        /** Places 0 to 2 are the rights of others, group and owner, the next ones the entries. */
        boolean holdsRight(int place, int right) {
            if (place < 3) {
                return (mode >> 3 * place & right) != 0;
            }
            int rights = rightsOf(place - 3);
            return rights != NONE && (rights & right) != 0;
        }

        void takeRight(int place, int right) {
            if (place >= 0 && place < 3) {
                mode &= ~(right << 3 * place);
            } else if (place >= 3 && place - 3 < SUBJECTS) {
                entryRights[place - 3] &= ~right;
            }
        }

        private static int oneIfIn(int rights, int right) {
            return (rights & right) == 0 ? 0 : 1;
        }
    }

    /** A process. */
    private static final class Actor {
        int user;
        int domain;
        int level;
        int categories;
        int fine;
        int bounds;
        int filterCount;
        int letPass = ALL;
        final int[] filters = new int[MOST_FILTERS];

        boolean isFine(int right) {
            return (fine & right) != 0;
        }

        void addFilter(int rights) {
            if (filterCount >= 0 && filterCount < MOST_FILTERS) {
                filters[filterCount] = rights;
                filterCount++;
                letPass &= rights;
            }
        }

        int letPassAnew() {
            int rights = ALL;
            for (int i = 0; i < MOST_FILTERS && i < filterCount; i++) {
                rights &= filters[i];
            }
            return rights;
        }

        void copyFrom(Actor other) {
            user = other.user;
            domain = other.domain;
            level = other.level;
            categories = other.categories;
            fine = other.fine;
            bounds = other.bounds;
            filterCount = other.filterCount;
            letPass = other.letPass;
            for (int i = 0; i < MOST_FILTERS; i++) {
                filters[i] = other.filters[i];
            }
        }
    }

    /** A token; it stays held when it is over or taken back, and then lets nothing. */
    private static final class Token {
        int thing;
        int rights;
        int until;
        int user;
        int domain;
        int maker;
        int holder;
        int from;
        boolean isTakenBack;
    }

    /** The last acts, in a ring of rows that each end with the check. */
    private static final class Log {
        static final int MOMENT = 0, PROCESS = 1, THING = 2, RIGHT = 3, VERDICT = 4, CHECK = 5;
        static final int WIDTH = 6;
        static final int FIRST_CHECK = 17;

        final int[] cells = new int[MOST_LOGGED * WIDTH];
        int first;
        int count;
        int lostCount;
        int lostCheck = FIRST_CHECK;

        void add(int moment, int process, int thing, int right, int verdict) {
            int ahead = count == 0 ? lostCheck : read(count - 1, CHECK);
            if (count == MOST_LOGGED) {
                lostCheck = read(0, CHECK);
                first = (first + 1) % MOST_LOGGED;
                count--;
                lostCount++;
            }
            int entry = count;
            count++;
            write(entry, MOMENT, moment);
            write(entry, PROCESS, process);
            write(entry, THING, thing);
            write(entry, RIGHT, right);
            write(entry, VERDICT, verdict);
            write(entry, CHECK, checkAfter(ahead, entry));
        }

        int read(int entry, int what) {
            return isCell(entry, what) ? cells[cellOf(entry, what)] : NONE;
        }

        void write(int entry, int what, int value) {
            if (isCell(entry, what)) {
                cells[cellOf(entry, what)] = value;
            }
        }

        int firstBroken() {
            int ahead = lostCheck;
            for (int entry = 0; entry < count; entry++) {
                int check = read(entry, CHECK);
                if (checkAfter(ahead, entry) != check) {
                    return entry;
                }
                ahead = check;
            }
            return NONE;
        }

        private int checkAfter(int ahead, int entry) {
            int check = 31 * ahead;
            for (int what = MOMENT; what <= VERDICT; what++) {
                check = 31 * check + read(entry, what);
            }
            return check;
        }

        private boolean isCell(int entry, int what) {
            return entry >= 0 && entry < count && what >= 0 && what < WIDTH;
        }

        private int cellOf(int entry, int what) {
            return (first + entry) % MOST_LOGGED * WIDTH + what;
        }
    }

    /** What a process could become by runs, in the order found; runs change no more of it than this. */
    private static final class Search {
        static final int STATES = USERS * DOMAINS * (ALL + 1);

        final int[] found = new int[STATES];
        final int[] runs = new int[STATES];
        int count;

        void clear() {
            count = 0;
            for (int i = 0; i < STATES; i++) {
                runs[i] = NONE;
            }
        }

        void add(Actor actor, int after) {
            int state = (actor.user * DOMAINS + actor.domain) * (ALL + 1) + actor.fine;
            if (state >= 0 && state < STATES && runs[state] == NONE && count < STATES) {
                runs[state] = after;
                found[count] = state;
                count++;
            }
        }

        /** Makes the actor what was found at a place, and tells after how many runs that was. */
        int restore(Actor actor, int place) {
            if (place < 0 || place >= STATES) {
                return NONE;
            }
            int state = found[place];
            if (state < 0 || state >= STATES) {
                return NONE;
            }
            actor.fine = state % (ALL + 1);
            actor.domain = state / (ALL + 1) % DOMAINS;
            actor.user = state / (ALL + 1) / DOMAINS;
            return runs[state];
        }
    }
}
