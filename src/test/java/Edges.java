/** Numbers beyond the ends of ranges, each of which a call has to refuse. */
final class Edges {
    interface OfNumber {
        long answer(int number);
    }

    private Edges() {
    }

    /** One beyond each end, and the farthest ones. */
    static int[] beyond(int first, int last) {
        return new int[] {first - 1, last + 1, Integer.MIN_VALUE, Integer.MAX_VALUE};
    }

    static void noSuchBeyond(String name, int first, int last, OfNumber call) {
        for (int number : beyond(first, last)) {
            Check.noSuchOne(name + " " + number, () -> call.answer(number));
        }
    }

    static void refusedBeyond(String name, int first, int last, OfNumber call) {
        for (int number : beyond(first, last)) {
            Check.outOfRange(name + " " + number, () -> call.answer(number));
        }
    }

    static long truth(boolean is) {
        return is ? 1 : 0;
    }
}
