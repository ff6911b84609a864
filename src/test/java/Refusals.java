import java.util.NoSuchElementException;

/** Calls that have to be refused: with the very exception that is due, and so that nothing has changed by it. */
final class Refusals {
    interface Call {
        Object on(Countcote x);
    }

    interface CallWith {
        Object on(Countcote x, int number);
    }

    static final Class<?> INDEX = IndexOutOfBoundsException.class;
    static final Class<?> ARGUMENT = IllegalArgumentException.class;
    static final Class<?> STATE = IllegalStateException.class;
    static final Class<?> ELEMENT = NoSuchElementException.class;

    static final int[] NO_STREAMS = around(4);
    static final int[] NO_ITEMS = around(64);
    static final int[] NO_LEAST = {0, 1000001, -1, Integer.MIN_VALUE, Integer.MAX_VALUE};

    private Refusals() {
    }

    /** Numbers that are none of the places 0 to size - 1; some would be one of them without their high bits. */
    static int[] around(int size) {
        return new int[] {-1, size, Integer.MIN_VALUE, Integer.MAX_VALUE, -size, size + 256, 1 << 16, 1 << 30};
    }

    static void refuses(String what, Class<?> due, Givens.Given given, Call call) {
        for (int stream = 0; stream < 4; stream++) {
            Countcote x = Givens.made(given);
            Check.refuses(what, due, () -> call.on(x));
            Check.same(what + ": the stream " + stream + " then",
                    Picture.of(Givens.made(given), stream), Picture.of(x, stream));
        }
    }

    static void refusesEach(int[] numbers, Class<?> due, Givens.Given given, CallWith call) {
        for (int number : numbers) {
            refuses("with " + number, due, given, x -> call.on(x, number));
        }
    }

    /** Neither end of the range may be no item; so it is also where the range would end before it begins. */
    static void refusesNoItemsInRange(Givens.Given given, RangeCall call) {
        refusesEach(NO_ITEMS, INDEX, given, (x, from) -> call.on(x, from, 63));
        refusesEach(NO_ITEMS, INDEX, given, (x, to) -> call.on(x, 0, to));
        refusesEach(NO_ITEMS, INDEX, given, (x, item) -> call.on(x, item, item));
    }

    /** A range that ends before it begins, by one or as far as can be. */
    static void refusesRangeBackwards(Givens.Given given, RangeCall call) {
        refuses("from 1 to 0", ARGUMENT, given, x -> call.on(x, 1, 0));
        refuses("from 63 to 62", ARGUMENT, given, x -> call.on(x, 63, 62));
        refuses("from 32 to 31", ARGUMENT, given, x -> call.on(x, 32, 31));
        refuses("from 63 to 0", ARGUMENT, given, x -> call.on(x, 63, 0));
    }

    interface RangeCall {
        Object on(Countcote x, int from, int to);
    }
}
