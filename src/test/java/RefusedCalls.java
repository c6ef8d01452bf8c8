import java.util.ArrayList;
import java.util.EnumMap;
import java.util.List;
import java.util.Map;

/** The sentences of "Exceptions" and all that begin with "Throws": each refused call, alone and with others. */
final class RefusedCalls {
    private static final int OWNER = 0, STRANGER = 1, MASTER = 2, LABELLER = 3;
    private static final Refusal.Kind USER = Refusal.Kind.USER, GROUP = Refusal.Kind.GROUP,
        DOMAIN = Refusal.Kind.DOMAIN, THING = Refusal.Kind.THING, PROCESS = Refusal.Kind.PROCESS,
        TOKEN = Refusal.Kind.TOKEN, ENTRY = Refusal.Kind.ENTRY;

    private static final List<Refusal> ALL = new ArrayList<>();
    /** What a look at each scene answers, where no call was refused. */
    private static final Map<Scene, List<List<String>>> untouched = new EnumMap<>(Scene.class);
    private static int combinations = 0;

    private RefusedCalls() {
    }

    static void all() {
        tellAll();
        for (String name : Run.names()) {
            Sentences.under(Sentences.promiseOf(name));
            for (String exception : Run.exceptionsOf(name)) {
                Sentences.holds(lineOf(name, exception), () -> alone(name, exception));
            }
        }
        Sentences.under("Exceptions");
        Sentences.holds("IndexOutOfBoundsException: there is no such user, group, thing, domain, process or token.",
            RefusedCalls::whereThereIsNone);
        Sentences.holds("IllegalArgumentException: another argument is out of its range. "
            + "UnsupportedOperationException: the process may not do it. IllegalStateException: as the method tells.",
            RefusedCalls::soundCallsAreNot);
        Sentences.holds("If several apply, the one that is named first in the throws clause is thrown; a call that "
            + "throws changes nothing.", RefusedCalls::severalAtOnce);
    }

    private static Refusal call(String name, int... sound) {
        Refusal refusal = new Refusal(name, sound);
        ALL.add(refusal);
        return refusal;
    }

    private static void tellAll() {
        tellThings();
        tellProcesses();
        tellActs();
        for (String name : new String[] {"verdict", "verdictAnew", "reach", "reachAnew"}) {
            call(name, OWNER, 0, 1).noSuch(0, PROCESS).noSuch(1, THING).right(2);
        }
        for (String name : new String[] {"least", "leastAnew"}) {
            call(name, 5, 0, 1).noSuch(0, USER).noSuch(1, THING).right(2);
        }
    }

    private static void tellThings() {
        call("member", 4, 0, 5, 1).noSuch(0, GROUP).noSuch(2, USER);
        call("member", 0, 0, 2, 0).noSuch(0, GROUP).noSuch(2, USER);
        // Group 0 is in group 1, that in group 2.
        call("member", 0, 1, 5, 1).noSuch(0, GROUP).noSuch(2, GROUP).badState(2, 0, 1, 2);
        call("member", 5, 1, 2, 1).noSuch(0, GROUP).noSuch(2, GROUP).badState(0, 0, 1, 2);
        call("groups", 2).noSuch(0, USER);
        call("thing", 0, 5, 0, 1023).noSuchButNone(0, THING).noSuch(1, USER).noSuch(2, GROUP).range(3, 0, 1023)
            .badWhenFull();
        call("thing", -1, 0, 5, 0).noSuchButNone(0, THING).noSuch(1, USER).noSuch(2, GROUP).range(3, 0, 1023)
            .badWhenFull();
        call("type", 0, 3).noSuch(0, THING).range(1, 0, 3);
        call("mode", OWNER, 0, 1).noSuch(0, PROCESS).noSuch(1, THING).range(2, 0, 1023)
            .mayNot(0, STRANGER, LABELLER).mayNot(1, 2);
        call("mask", OWNER, 0, 1).noSuch(0, PROCESS).noSuch(1, THING).range(2, 0, 7)
            .mayNot(0, STRANGER, LABELLER).mayNot(1, 2);
        for (int isGroup = 0; isGroup < 2; isGroup++) {
            call("entry", OWNER, 0, isGroup, 4, 7, 1).noSuch(0, PROCESS).noSuch(1, THING)
                .noSuch(3, isGroup == 1 ? GROUP : USER).range(4, -1, 7)
                .mayNot(0, STRANGER, LABELLER).mayNot(1, 2).badWhenFull();
        }
        call("give", MASTER, 0, 4).noSuch(0, PROCESS).noSuch(1, THING).noSuch(2, USER)
            .mayNot(0, OWNER, STRANGER, LABELLER);
        call("give", OWNER, 0, 1).noSuch(0, PROCESS).noSuch(1, THING).noSuch(2, USER)
            .mayNot(0, STRANGER, LABELLER).mayNot(1, 2).mayNot(2, 0, 2, 5);
        call("label", LABELLER, 0, 1, 4).noSuch(0, PROCESS).noSuch(1, THING).range(2, 0, 3).range(3, 0, 7)
            .mayNot(0, OWNER).mayNot(2, 3).mayNot(3, 2, 6, 7);
    }

    private static void tellProcesses() {
        call("rule", 0, 3, 5).noSuch(0, DOMAIN).range(1, 0, 3).range(2, 0, 7);
        call("move", 0, 1, 3).noSuch(0, DOMAIN).noSuchButNone(2, DOMAIN).range(1, 0, 3);
        call("move", 3, 3, -1).noSuch(0, DOMAIN).range(1, 0, 3);
        call("process", 5, 3, 3, 7, 2, 6).noSuch(0, USER).noSuch(1, DOMAIN).range(2, 0, 3).range(3, 0, 7)
            .range(4, 0, 7).rangeBut(4, 1, 3, 7).range(5, 0, 7).rangeBut(5, 0, 4, 5).badWhenFull();
        call("filter", OWNER, 0).noSuch(0, PROCESS).range(1, 0, 7).badWhenFull();
        call("bound", MASTER, 7).noSuch(0, PROCESS).range(1, 0, 7);
        call("about", OWNER, 6).noSuch(0, PROCESS).range(1, 0, 6);
    }

    private static void tellActs() {
        call("act", OWNER, 0, 1).noSuch(0, PROCESS).noSuch(1, THING).right(2);
        call("actBy", OWNER, 0, 4).noSuch(0, PROCESS).noSuch(1, TOKEN).right(2)
            .mayNot(0, STRANGER, MASTER).mayNot(1, 1, 2);
        call("token", OWNER, 0, 7, 10000).noSuch(0, PROCESS).noSuch(1, THING).range(2, 1, 7).range(3, 5, 10000)
            .badWhenFull();
        // Token 0 has the rights 5; token 1, which the stranger holds, 4 until 20.
        call("narrow", OWNER, 0, 5, 10000, LABELLER).noSuch(0, PROCESS).noSuch(1, TOKEN).noSuch(4, PROCESS)
            .range(2, 1, 7).rangeBut(2, 2, 3, 6, 7).range(3, 5, 10000).mayNot(0, STRANGER, MASTER).badWhenFull();
        call("narrow", STRANGER, 1, 4, 20, OWNER).noSuch(0, PROCESS).noSuch(1, TOKEN).noSuch(4, PROCESS)
            .range(2, 4, 4).rangeBut(2, 1, 2, 6, 7, 0, 8).range(3, 5, 20).rangeBut(3, 10000, 10001)
            .mayNot(0, OWNER, MASTER);
        call("takeBack", OWNER, 1).noSuch(0, PROCESS).noSuch(1, TOKEN).mayNot(0, STRANGER, MASTER).mayNot(1, 2);
        call("pass", 1).range(0, 1, 1000).badWhenFull();
        call("pass", 1000).range(0, 1, 1000).badWhenFull();
        call("watch", 0, 7).range(0, 0, 7).range(1, 0, 7);
        call("logged", 0, 4).noSuch(0, ENTRY).range(1, 0, 4);
        call("forge", 0, 0).noSuch(0, ENTRY).range(1, 0, 5);
    }

    private static String lineOf(String name, String exception) {
        for (String line : Sentences.linesUnder(Sentences.promiseOf(name))) {
            if (line.startsWith("Throws `" + exception + "`")) {
                return line;
            }
        }
        return "Throws `" + exception + "`";
    }

    // ---- the sentences

    private static void alone(String name, String exception) {
        int before = combinations;
        for (Refusal refusal : ALL) {
            if (refusal.name.equals(name)) {
                for (Refusal.Fault fault : refusal.faultsOf(exception)) {
                    refused(refusal, List.of(fault), exception);
                }
            }
        }
        Check.is("there are such calls", combinations > before, true);
    }

    /** Nothing has been made yet: even number 0 is of none. */
    private static void whereThereIsNone() {
        int tried = 0;
        for (Refusal refusal : ALL) {
            if (refusal.asksForMore) {
                tried++;
                refused(refusal, refusal.sound, Scene.EMPTY, Refusal.NO_SUCH);
                for (Refusal.Fault fault : refusal.faultsOf(Refusal.OUT_OF_RANGE)) {
                    refused(refusal, refusal.with(List.of(fault), Scene.EMPTY), Scene.EMPTY, Refusal.NO_SUCH);
                }
            }
        }
        Check.is("there are such calls", tried > 20, true);
        Run run = Scene.EMPTY.begin();
        Check.is("a thing in none", run.call("thing", -1, 0, 0, 0), "0");
        Check.is("a process without things", run.call("process", 0, 0, 0, 0, 0, 0), "0");
    }

    /** Each call of the table is refused for its fault alone: with none it answers. */
    private static void soundCallsAreNot() {
        for (Refusal refusal : ALL) {
            Run run = Scene.ROOMY.begin();
            String answer = run.call(refusal.name, refusal.sound);
            if (answer.startsWith("throws")) {
                Check.report(run.lastCall() + " answered " + answer + ", though nothing is wrong in it");
            }
        }
    }

    private static void severalAtOnce() {
        int before = combinations;
        for (Refusal refusal : ALL) {
            several(refusal, Run.exceptionsOf(refusal.name), 0, List.of());
        }
        Check.is("there are such calls", combinations - before > 4000, true);
    }

    /** Adds to the faults at most one of each exception from the place on, in all ways. */
    private static void several(Refusal refusal, List<String> exceptions, int place, List<Refusal.Fault> chosen) {
        if (place == exceptions.size()) {
            if (chosen.size() > 1) {
                refused(refusal, chosen, chosen.get(0).exception);
            }
            return;
        }
        several(refusal, exceptions, place + 1, chosen);
        for (Refusal.Fault fault : refusal.faultsOf(exceptions.get(place))) {
            List<Refusal.Fault> more = new ArrayList<>(chosen);
            more.add(fault);
            several(refusal, exceptions, place + 1, more);
        }
    }

    // ---- one refused call

    private static void refused(Refusal refusal, List<Refusal.Fault> together, String exception) {
        Scene scene = Refusal.sceneOf(together);
        int[] numbers = refusal.with(together, scene);
        if (numbers != null) {
            refused(refusal, numbers, scene, exception);
        }
    }

    private static void refused(Refusal refusal, int[] numbers, Scene scene, String exception) {
        combinations++;
        for (int part = 0; part < Scene.PARTS; part++) {
            Run run = scene.begin();
            int built = run.answers.size();
            String answer = run.call(refusal.name, numbers);
            String told = run.lastCall() + " in " + scene;
            Check.is(told, answer, "throws." + exception);
            scene.look(run, part);
            List<String> due = untouchedLook(scene, part);
            for (int i = 0; i < due.size(); i++) {
                String call = run.calls.get(built + 1 + i);
                Check.is(told + ", then " + call, run.answers.get(built + 1 + i), due.get(i));
            }
        }
    }

    private static List<String> untouchedLook(Scene scene, int part) {
        List<List<String>> looks = untouched.computeIfAbsent(scene, k -> new ArrayList<>());
        while (looks.size() < Scene.PARTS) {
            Run run = scene.begin();
            int built = run.answers.size();
            scene.look(run, looks.size());
            looks.add(new ArrayList<>(run.answers.subList(built, run.answers.size())));
        }
        return looks.get(part);
    }
}
