/** What was done with an object before: told as calls, so that a new object can be brought to the same. */
final class Givens {
    interface Given {
        void on(Countcote x);
    }

    static final Given NOTHING = x -> { };

    /** Each stream holds items, shared cells, and four counters or a number taken. */
    static final Given BUSY = x -> {
        addAll(x, 0, 1, 10, 2, 20, 3, 30, 4, 40, 5, 15);
        addAll(x, 1, 0, 1, 63, 1000, 31, 7, 32, 8);
        addAll(x, 2, 61, 5, 1, 9);
        x.merge(3, 0);
        x.merge(3, 1);
    };

    private Givens() {
    }

    static Countcote made(Given given) {
        Countcote x = new Countcote();
        given.on(x);
        return x;
    }

    /** Adds items with weights: each item, and behind it its weight. */
    static void addAll(Countcote x, int stream, int... itemsAndWeights) {
        for (int i = 0; i + 1 < itemsAndWeights.length; i += 2) {
            x.add(stream, itemsAndWeights[i], itemsAndWeights[i + 1]);
        }
    }

    /** A new object with items and weights in the stream 0. */
    static Countcote with(int... itemsAndWeights) {
        return made(x -> addAll(x, 0, itemsAndWeights));
    }

    /** The stream 0 holds a number of the item 7, up to 1000000; the others are empty. */
    static Given holding(int number) {
        return x -> {
            hold(x, 0, 7, number);
            x.clear(1);
            x.clear(2);
        };
    }

    /** As holding, and the other streams hold 1, 500 and 1000. */
    static Given holdingBesideOthers(int number) {
        return x -> {
            holding(number).on(x);
            x.add(1, 7, 1);
            x.add(2, 8, 500);
            addAll(x, 3, 1, 100, 2, 200, 3, 300, 4, 350, 5, 50);
        };
    }

    /** Adds a number of an item with some fifty calls; the two streams that follow are used for it. */
    static void hold(Countcote x, int stream, int item, int number) {
        int tenThousand = (stream + 1) % 4;
        int hundredThousand = (stream + 2) % 4;
        x.clear(tenThousand);
        x.clear(hundredThousand);
        x.add(hundredThousand, item, 1000);
        mergeTimes(x, tenThousand, hundredThousand, 10);
        x.clear(hundredThousand);
        mergeTimes(x, hundredThousand, tenThousand, 10);
        mergeTimes(x, stream, hundredThousand, number / 100000);
        mergeTimes(x, stream, tenThousand, number / 10000 % 10);
        for (int thousand = 0; thousand < number / 1000 % 10; thousand++) {
            x.add(stream, item, 1000);
        }
        if (number % 1000 > 0) {
            x.add(stream, item, number % 1000);
        }
    }

    static void mergeTimes(Countcote x, int stream, int other, int times) {
        for (int time = 0; time < times; time++) {
            x.merge(stream, other);
        }
    }

    /** Makes everything in a stream ten times as much; the other stream is used for it. */
    static void tenfold(Countcote x, int stream, int other) {
        x.clear(other);
        mergeTimes(x, other, stream, 10);
        x.clear(stream);
        x.merge(stream, other);
    }
}
