/** States that calls are refused in, and the calls that look at all of such a state. */
enum Scene {
    EMPTY(0, 0, 0, 0),
    /** Some of all, and room for more of all; now is 5. */
    ROOMY(3, 4, 3, 5),
    /** As many of all as there can be; now is 10000. */
    FULL(12, 8, 10, 20);

    /** How many parts a look has: all of it would be more calls than an object is used for. */
    static final int PARTS = 3;

    private static final int OWNER = 0, STRANGER = 1, MASTER = 2, LABELLER = 3;

    final int things;
    final int processes;
    final int tokens;
    final int entries;

    Scene(int things, int processes, int tokens, int entries) {
        this.things = things;
        this.processes = processes;
        this.tokens = tokens;
        this.entries = entries;
    }

    Run begin() {
        Run run = new Run();
        if (this != EMPTY) {
            buildWorld(run);
            buildThings(run);
            buildTokensAndLog(run);
        }
        return run;
    }

    private void buildWorld(Run run) {
        for (int type = 0; type < 4; type++) {
            run.call("rule", 0, type, 7);
        }
        run.call("rule", 1, 0, 5);
        run.call("rule", 3, 3, 1);
        run.call("move", 0, 1, 2);
        run.call("move", 3, 3, 0);
        run.call("member", 0, 0, 2, 1);
        run.call("member", 5, 0, 5, 1);
        run.call("member", 1, 1, 0, 1);
        run.call("member", 2, 1, 1, 1);
        run.call("process", 1, 0, 1, 1, 0, 6);
        run.call("process", 2, 1, 0, 0, 5, 7);
        run.call("process", 3, 0, 3, 7, 7, 7);
        run.call("process", 4, 0, 2, 5, 4, 4);
        for (int i = 4; i < processes; i++) {
            run.call("process", i % 6, i % 4, i % 4, i, 0, 1);
        }
    }

    private void buildThings(Run run) {
        run.call("thing", -1, 1, 0, 0754);
        run.call("entry", OWNER, 0, 0, 2, 5, 1);
        run.call("entry", OWNER, 0, 1, 0, 3, 0);
        run.call("entry", OWNER, 0, 1, 3, 6, 1);
        if (this == FULL) {
            run.call("entry", OWNER, 0, 0, 5, 0, 1);
            run.call("entry", OWNER, 0, 1, 5, 7, 1);
        }
        run.call("thing", 0, 1, 1, 01777);
        run.call("thing", -1, 2, 5, 0007);
        for (int i = 3; i < things; i++) {
            run.call("thing", i % 4 - 1, i % 6, i / 2, 67 * i);
        }
        run.call("mask", OWNER, 0, 6);
        run.call("type", 2, 3);
        run.call("label", MASTER, 2, 1, 1);
        for (int process = 0; process < processes; process++) {
            for (int i = 0; i < 3 && (this == FULL || i < process); i++) {
                run.call("filter", process, 7 - i % 2);
            }
        }
    }

    private void buildTokensAndLog(Run run) {
        run.call("token", OWNER, 0, 5, 10000);
        run.call("narrow", OWNER, 0, 4, 20, STRANGER);
        run.call("token", MASTER, 1, 7, 5);
        for (int i = 3; i < tokens; i++) {
            run.call("token", i % 4, i, i % 7 + 1, 1000 * i);
        }
        run.call("act", OWNER, 0, 1);
        run.call("pass", 5);
        for (int i = 1; i < entries + (this == FULL ? 3 : 0); i++) {
            run.call("act", i % 4, i % 3, i % 2 + 1);
        }
        run.call("forge", 1, 5);
        run.call("watch", 6, 3);
        if (this == FULL) {
            for (int i = 0; i < 9; i++) {
                run.call("pass", 1000);
            }
            run.call("pass", 995);
        }
    }

    /** Looks at one of the parts of all that there is; two like objects answer alike. */
    void look(Run run, int part) {
        if (part == 0) {
            lookAtProcessesAndLog(run);
            lookAtTokens(run);
        } else if (part == 1) {
            lookAtGroupsAndRules(run);
            lookForRoom(run);
        } else {
            lookAtThings(run);
        }
    }

    private void lookAtProcessesAndLog(Run run) {
        for (int process = 0; process <= processes; process++) {
            for (int what = 0; what < 7; what++) {
                run.call("about", process, what);
            }
        }
        run.call("entries");
        run.call("lost");
        run.call("broken");
        for (int entry = 0; entry <= entries; entry++) {
            for (int what = 0; what < 5; what++) {
                run.call("logged", entry, what);
            }
        }
        run.call("forge", 1, 0);
        run.call("broken");
    }

    private void lookAtTokens(Run run) {
        for (int token = 0; token <= tokens; token++) {
            for (int process = 0; process < 4; process++) {
                run.call("actBy", process, token, 1 + token % 2);
                run.call("entries");
                run.call("takeBack", process, token);
            }
        }
    }

    private void lookAtGroupsAndRules(Run run) {
        for (int user = 0; user < 6; user++) {
            run.call("groups", user);
        }
        for (int cell = 0; cell < 16; cell++) {
            run.call("rule", cell / 4, cell % 4, 7);
            run.call("move", cell / 4, cell % 4, -1);
        }
        for (int cell = 0; cell < 72; cell++) {
            run.call("member", cell / 12, cell % 2, cell % 12 / 2, 0);
        }
        for (int right = 1; right <= 4; right *= 2) {
            run.call("act", MASTER, 0, right);
            run.call("act", STRANGER, 1, right);
            run.call("entries");
            run.call("lost");
        }
    }

    private void lookForRoom(Run run) {
        for (int process = 0; process < processes; process++) {
            run.call("filter", process, 7);
            run.call("filter", process, 7);
        }
        run.call("token", OWNER, 0, 1, 10000);
        run.call("narrow", OWNER, 0, 4, 10000, 0);
        run.call("narrow", OWNER, 0, 2, 10000, 0);
        run.call("actBy", STRANGER, 1, 4);
        run.call("pass", 15);
        run.call("actBy", STRANGER, 1, 4);
        run.call("pass", 1);
        run.call("actBy", STRANGER, 1, 4);
        run.call("process", 0, 0, 0, 0, 0, 0);
        for (int thing = 0; thing < 3; thing++) {
            run.call("thing", thing, 0, 0, 0);
        }
        for (int thing = 3; thing < 6; thing++) {
            for (int who = 0; who < 12; who++) {
                run.call("entry", MASTER, thing, who % 2, who / 2, -1, 0);
            }
        }
    }

    private void lookAtThings(Run run) {
        for (int thing = 0; thing <= things; thing++) {
            for (int right = 1; right <= 4; right *= 2) {
                run.call("verdict", STRANGER, thing, right);
                run.call("verdict", LABELLER, thing, right);
            }
            run.call("mode", MASTER, thing, 0);
            run.call("mask", MASTER, thing, 7);
            run.call("give", MASTER, thing, 4);
            run.call("label", MASTER, thing, 0, 0);
            run.call("type", thing, 0);
            for (int who = 0; who < 12; who++) {
                run.call("entry", MASTER, thing, who % 2, who / 2, -1, 0);
            }
        }
    }
}
