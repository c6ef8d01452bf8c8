import java.util.ArrayList;
import java.util.List;

/** A sound call of the face, and for each of its arguments the numbers that make it a refused one. */
final class Refusal {
    static final String NO_SUCH = "IndexOutOfBoundsException";
    static final String OUT_OF_RANGE = "IllegalArgumentException";
    static final String MAY_NOT = "UnsupportedOperationException";
    static final String BAD_STATE = "IllegalStateException";

    /** What a number of an argument may be the number of. */
    enum Kind { USER, GROUP, DOMAIN, THING, PROCESS, TOKEN, ENTRY }

    /** One wrong number, or the whole of a state in which the call is refused. */
    static final class Fault {
        final String exception;
        final int place;
        final int number;
        final Kind beyond;

        Fault(String exception, int place, int number, Kind beyond) {
            this.exception = exception;
            this.place = place;
            this.number = number;
            this.beyond = beyond;
        }

        /** The number one beyond the last, which depends on how many there are. */
        int numberIn(Scene scene) {
            return beyond == null ? number : countOf(beyond, scene);
        }
    }

    private static final int WHOLE_STATE = -1;

    final String name;
    final int[] sound;
    final List<Fault> faults = new ArrayList<>();
    boolean asksForMore = false;

    Refusal(String name, int... sound) {
        this.name = name;
        this.sound = sound;
    }

    static int countOf(Kind kind, Scene scene) {
        switch (kind) {
            case THING:
                return scene.things;
            case PROCESS:
                return scene.processes;
            case TOKEN:
                return scene.tokens;
            case ENTRY:
                return scene.entries;
            case DOMAIN:
                return 4;
            default:
                return 6;
        }
    }

    private Refusal noSuchFrom(int first, int place, Kind kind) {
        asksForMore |= kind.compareTo(Kind.THING) >= 0 && first == 0;
        faults.add(new Fault(NO_SUCH, place, first - 1, null));
        faults.add(new Fault(NO_SUCH, place, 0, kind));
        faults.add(new Fault(NO_SUCH, place, Integer.MIN_VALUE, null));
        faults.add(new Fault(NO_SUCH, place, Integer.MAX_VALUE, null));
        return this;
    }

    Refusal noSuch(int place, Kind kind) {
        return noSuchFrom(0, place, kind);
    }

    /** Where NONE may stand. */
    Refusal noSuchButNone(int place, Kind kind) {
        return noSuchFrom(-1, place, kind);
    }

    Refusal range(int place, int first, int last) {
        for (int number : Edges.beyond(first, last)) {
            faults.add(new Fault(OUT_OF_RANGE, place, number, null));
        }
        return this;
    }

    Refusal rangeBut(int place, int... numbers) {
        for (int number : numbers) {
            faults.add(new Fault(OUT_OF_RANGE, place, number, null));
        }
        return this;
    }

    /** LOOK, CHANGE or RUN: no sets of them, nor none. */
    Refusal right(int place) {
        return rangeBut(place, 0, 3, 5, 6, 7, 8, 16, -1, -2, -4, Integer.MIN_VALUE, Integer.MAX_VALUE);
    }

    Refusal mayNot(int place, int... numbers) {
        for (int number : numbers) {
            faults.add(new Fault(MAY_NOT, place, number, null));
        }
        return this;
    }

    Refusal badState(int place, int... numbers) {
        for (int number : numbers) {
            faults.add(new Fault(BAD_STATE, place, number, null));
        }
        return this;
    }

    /** Where there are as many as there can be, the call is refused. */
    Refusal badWhenFull() {
        faults.add(new Fault(BAD_STATE, WHOLE_STATE, 0, null));
        return this;
    }

    List<Fault> faultsOf(String exception) {
        List<Fault> of = new ArrayList<>();
        for (Fault fault : faults) {
            if (fault.exception.equals(exception)) {
                of.add(fault);
            }
        }
        return of;
    }

    /** The scene that the faults together ask for. */
    static Scene sceneOf(List<Fault> together) {
        for (Fault fault : together) {
            if (fault.place == WHOLE_STATE) {
                return Scene.FULL;
            }
        }
        return Scene.ROOMY;
    }

    /** The sound numbers with the faults put into them; null, if two are faults of the same argument. */
    int[] with(List<Fault> together, Scene scene) {
        int[] numbers = sound.clone();
        boolean[] isTaken = new boolean[sound.length];
        for (Fault fault : together) {
            if (fault.place == WHOLE_STATE) {
                continue;
            }
            if (isTaken[fault.place]) {
                return null;
            }
            isTaken[fault.place] = true;
            numbers[fault.place] = fault.numberIn(scene);
        }
        return numbers;
    }
}
