/** The sentences of the promises 11 to 16 that name no boundary. */
final class ProcessSentences {
    private static final int NONE = Worlds.NONE;
    private static final int RUN = Worlds.RUN;

    private ProcessSentences() {
    }

    static void all() {
        Sentences.under("Promise 11: rule");
        Sentences.holds("Tells which rights a domain has on a type.", ProcessSentences::sixteenRules);
        Sentences.holds("Returns the rights before.", ProcessSentences::rightsBefore);
        Sentences.under("Promise 12: move");
        Sentences.holds("Tells to which domain a process goes.", ProcessSentences::sixteenMoves);
        Sentences.under("Promise 13: process");
        Sentences.holds("Makes a process.", ProcessSentences::eightProcesses);
        Sentences.holds("Returns its number.", ProcessSentences::numbersOfProcesses);
        Sentences.under("Promise 14: filter");
        Sentences.holds("Gives a process a filter more.", ProcessSentences::filtersOfEight);
        Sentences.under("Promise 15: bound");
        Sentences.holds("Takes fine rights out of the bounds of a process, and from it.",
            ProcessSentences::boundsOfAllKinds);
        Sentences.under("Promise 16: about");
        Sentences.holds("Tells of a process.", ProcessSentences::afterAllThatChangesIt);
    }

    /** Things 0 to 3 of the types 0 to 3, which all may run; processes 0 to 3 in the domains 0 to 3. */
    private static AuditgateReeve withTypesAndDomains() {
        AuditgateReeve x = new AuditgateReeve();
        for (int n = 0; n < 4; n++) {
            x.type(x.thing(NONE, 1, 0, 0777), n);
            x.process(1, n, 0, 0, 0, 0);
        }
        return x;
    }

    private static void sixteenRules() {
        AuditgateReeve x = withTypesAndDomains();
        for (int turn = 0; turn < 3; turn++) {
            for (int cell = 0; cell < 16; cell++) {
                x.rule(cell / 4, cell % 4, (3 * cell + turn) % 8);
            }
            for (int cell = 0; cell < 16; cell++) {
                for (int right : Worlds.RIGHTS) {
                    Check.is("turn " + turn + ", cell " + cell + " for " + right,
                        Worlds.verdict(x, cell / 4, cell % 4, right), ((3 * cell + turn) % 8 & right) != 0 ? 0 : 3);
                }
            }
        }
    }

    private static void rightsBefore() {
        AuditgateReeve x = new AuditgateReeve();
        for (int turn = 0; turn < 9; turn++) {
            for (int cell = 0; cell < 16; cell++) {
                Check.is("turn " + turn + ", cell " + cell, x.rule(cell / 4, cell % 4, (5 * cell + 3 * turn) % 8),
                    turn == 0 ? 0 : (5 * cell + 3 * turn - 3) % 8);
            }
        }
    }

    private static void sixteenMoves() {
        for (int domain = 0; domain < 4; domain++) {
            for (int type = 0; type < 4; type++) {
                AuditgateReeve x = withTypesAndDomains();
                for (int cell = 0; cell < 16; cell++) {
                    x.rule(cell / 4, cell % 4, RUN);
                    x.move(cell / 4, cell % 4, whereFrom(cell));
                }
                int to = whereFrom(4 * domain + type);
                Check.is("run", x.act(domain, type, RUN), 0);
                for (int process = 0; process < 4; process++) {
                    Check.is("process " + process + ", when that of " + domain + " ran type " + type,
                        x.about(process, 1), process == domain && to != NONE ? to : process);
                }
            }
        }
    }

    private static int whereFrom(int cell) {
        return (3 * cell + 2) % 5 - 1;
    }

    private static final int[][] EIGHT = {{0, 3, 0, 7, 0, 7}, {1, 2, 1, 6, 1, 5}, {2, 1, 2, 5, 2, 6},
        {3, 0, 3, 4, 3, 3}, {4, 3, 3, 3, 4, 4}, {5, 2, 2, 2, 5, 7}, {0, 1, 1, 1, 6, 6}, {5, 0, 0, 0, 7, 7}};

    private static AuditgateReeve withEight() {
        AuditgateReeve x = Worlds.withRules();
        for (int[] p : EIGHT) {
            x.process(p[0], p[1], p[2], p[3], p[4], p[5]);
        }
        return x;
    }

    private static void eightProcesses() {
        AuditgateReeve x = withEight();
        for (int process = 0; process < 8; process++) {
            for (int what = 0; what < 6; what++) {
                Check.is("about(" + process + ", " + what + ")", x.about(process, what), EIGHT[process][what]);
            }
            Check.is("without filters", x.about(process, 6), 7);
        }
    }

    private static void numbersOfProcesses() {
        AuditgateReeve x = new AuditgateReeve();
        for (int i = 0; i < 8; i++) {
            int number = x.process(5 - i % 6, i % 4, 0, 0, 0, 0);
            Check.is("process " + i, number, i);
            Check.is("it is told by that number", x.about(number, 0) * 10 + x.about(number, 1),
                10 * (5 - i % 6) + i % 4);
        }
    }

    /** Each process gets filters of its own, one more at a time. */
    private static void filtersOfEight() {
        AuditgateReeve x = withEight();
        int thing = x.thing(NONE, 1, 0, 0777);
        x.label(7, thing, 0, 0);
        int[] due = {7, 7, 7, 7, 7, 7, 7, 7};
        for (int filter = 0; filter < 3; filter++) {
            for (int process = 0; process < 8; process++) {
                int rights = 7 - (process + filter * filter) % 8 / (filter + 1);
                due[process] &= rights;
                Check.is("filter " + filter + " of " + process, x.filter(process, rights), due[process]);
                for (int other = 0; other < 8; other++) {
                    Check.is("what " + other + " lets pass", x.about(other, 6), due[other]);
                }
                Check.is("by it", Worlds.verdict(x, process, thing, Worlds.LOOK), due[process] % 2 == 1 ? 0 : 4);
            }
        }
        for (int process = 0; process < 8; process++) {
            int p = process;
            Check.badState("a fourth of " + p, () -> x.filter(p, 7));
        }
    }

    private static void boundsOfAllKinds() {
        for (int bounds = 0; bounds < 8; bounds++) {
            for (int fine = 0; fine < 8; fine++) {
                for (int out = 0; out < 8 && (fine | bounds) == bounds; out++) {
                    AuditgateReeve x = new AuditgateReeve();
                    x.process(1, 0, 0, 0, fine, bounds);
                    x.process(1, 0, 0, 0, fine, bounds);
                    Check.is("out of " + bounds + " " + out, x.bound(1, out), bounds - (bounds & out));
                    Check.is("the bounds then", x.about(1, 5), bounds - (bounds & out));
                    Check.is("from " + fine, x.about(1, 4), fine - (fine & out));
                    Check.is("the bounds of another one", x.about(0, 5), bounds);
                    Check.is("its fine rights", x.about(0, 4), fine);
                }
            }
        }
    }

    /** Runs, filters and bounds change what is told of one process; questions, tokens and refused acts do not. */
    private static void afterAllThatChangesIt() {
        AuditgateReeve x = withEight();
        int shell = x.thing(NONE, 0, 0, 01777);
        int closed = x.thing(NONE, 3, 0, 01000);
        x.move(3, 0, 2);
        told(x, 0, 0, 3, 0, 7, 0, 7, 7);
        Check.is("refused", x.act(0, closed, RUN), 1);
        x.reach(0, shell, RUN);
        x.reachAnew(0, closed, RUN);
        Check.is("by a token", x.actBy(0, x.token(0, shell, RUN, 0), RUN), 0);
        told(x, 0, 0, 3, 0, 7, 0, 7, 7);
        x.filter(0, 5);
        x.bound(0, 4);
        told(x, 0, 0, 3, 0, 7, 0, 3, 5);
        Check.is("run", x.act(0, shell, RUN), 0);
        told(x, 0, 0, 2, 0, 7, 3, 3, 5);
        x.give(0, shell, 5);
        Check.is("run again", x.act(0, shell, RUN), 0);
        told(x, 0, 5, 2, 0, 7, 0, 3, 5);
        told(x, 7, EIGHT[7][0], EIGHT[7][1], EIGHT[7][2], EIGHT[7][3], EIGHT[7][4], EIGHT[7][5], 7);
    }

    private static void told(AuditgateReeve x, int process, int... due) {
        for (int what = 0; what < 7; what++) {
            Check.is("about(" + process + ", " + what + ")", x.about(process, what), due[what]);
        }
    }
}
