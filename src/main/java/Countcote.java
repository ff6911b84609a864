import java.util.Arrays;
import java.util.NoSuchElementException;

/**
 * A library of frequent items in streams: careful sketches that never count too little, signed
 * sketches that are right on the average, a few counters with certain bounds, and a hierarchy of
 * halves for ranges, frequent items and ranks.
 */
public final class Countcote {

    /** There is none. */
    public static final int NONE = -1;

    private static final int STREAMS = 4;
    private static final int ITEMS = 64;
    private static final int TOP_LEVEL = 6;
    private static final int MOST_WEIGHT = 1000;
    private static final int MOST_TOTAL = 1000000;

    private final Stream[] streams = new Stream[STREAMS];

    /** Creates four empty streams. */
    public Countcote() {
        for (int i = 0; i < streams.length; i++) {
            streams[i] = new Stream();
        }
    }

    // ---- streams

    /** Adds an item to a stream; returns the total of the stream then. */
    public int add(int stream, int item, int weight)
            throws IndexOutOfBoundsException, IllegalArgumentException, IllegalStateException {
        requirePlace(stream, STREAMS);
        requirePlace(item, ITEMS);
        requireWithin(weight, 1, MOST_WEIGHT);
        Stream changed = streams[stream];
        requireRoom(changed.plain.sum() + weight);
        changed.put(item, weight);
        return changed.plain.sum();
    }

    /** Adds the other stream to a stream; returns the total of the stream then. */
    public int merge(int stream, int other)
            throws IndexOutOfBoundsException, IllegalArgumentException, IllegalStateException {
        requirePlace(stream, STREAMS);
        requirePlace(other, STREAMS);
        if (stream == other) {
            throw new IllegalArgumentException("a stream is not merged with itself");
        }
        Stream changed = streams[stream];
        Stream added = streams[other];
        requireRoom(changed.plain.sum() + added.plain.sum());
        changed.join(added);
        return changed.plain.sum();
    }

    /** Empties a stream; returns its total before. */
    public int clear(int stream) throws IndexOutOfBoundsException {
        requirePlace(stream, STREAMS);
        int before = streams[stream].plain.sum();
        streams[stream].empty();
        return before;
    }

    /** Returns the total of a stream. */
    public int total(int stream) throws IndexOutOfBoundsException {
        requirePlace(stream, STREAMS);
        return streams[stream].plain.sum();
    }

    // ---- plain counts

    /** Returns the plain count of an item. */
    public int count(int stream, int item) throws IndexOutOfBoundsException {
        requirePlace(stream, STREAMS);
        requirePlace(item, ITEMS);
        return streams[stream].plain.ofHalf(0, item);
    }

    /** Returns the sum of the plain counts of the items from one to another one. */
    public int countOfRange(int stream, int from, int to)
            throws IndexOutOfBoundsException, IllegalArgumentException {
        requirePlace(stream, STREAMS);
        requireRange(from, to);
        return streams[stream].plain.ofItems(from, to);
    }

    /** Returns the sum over all items of the product of their plain counts in two streams. */
    public long product(int stream, int other) throws IndexOutOfBoundsException {
        requirePlace(stream, STREAMS);
        requirePlace(other, STREAMS);
        return streams[stream].plain.times(streams[other].plain);
    }

    // ---- careful sketches and halves

    /** Returns the column of a half in a row of the careful sketches. */
    public int column(int row, int half) throws IndexOutOfBoundsException {
        requirePlace(row, CarefulSketch.ROWS);
        requirePlace(half, ITEMS);
        return CarefulSketch.columnOf(row, half);
    }

    /** Returns a cell of a careful sketch. */
    public int cell(int stream, int level, int row, int column) throws IndexOutOfBoundsException {
        requirePlace(stream, STREAMS);
        requirePlace(level, Stream.SKETCHED_LEVELS);
        requirePlace(row, CarefulSketch.ROWS);
        requirePlace(column, CarefulSketch.COLUMNS);
        return streams[stream].careful[level].cellAt(row, column);
    }

    /** Returns the estimate of a half. */
    public int estimate(int stream, int level, int half) throws IndexOutOfBoundsException {
        requirePlace(stream, STREAMS);
        requirePlace(level, TOP_LEVEL + 1);
        requirePlace(half, ITEMS >> level);
        return streams[stream].estimateOf(level, half);
    }

    /** Returns the share of an item in the total by its estimate; 0.0 for an empty stream. */
    public double share(int stream, int item) throws IndexOutOfBoundsException {
        requirePlace(stream, STREAMS);
        requirePlace(item, ITEMS);
        int sum = streams[stream].plain.sum();
        if (sum == 0) {
            return 0.0;
        }
        return (double) streams[stream].estimateOf(0, item) / sum;
    }

    /** Returns how many halves a range of items is made of. */
    public int parts(int from, int to) throws IndexOutOfBoundsException, IllegalArgumentException {
        requireRange(from, to);
        int number = 0;
        int next = from;
        while (next <= to) {
            next += 1 << greatestLevel(next, to);
            number++;
        }
        return number;
    }

    /** Returns the sum of the estimates of the halves that a range of items is made of. */
    public int estimateOfRange(int stream, int from, int to)
            throws IndexOutOfBoundsException, IllegalArgumentException {
        requirePlace(stream, STREAMS);
        requireRange(from, to);
        int sum = 0;
        int next = from;
        while (next <= to) {
            int level = greatestLevel(next, to);
            sum += streams[stream].estimateOf(level, next >> level);
            next += 1 << level;
        }
        return sum;
    }

    /** Returns how many items are frequent. */
    public int frequent(int stream, int least)
            throws IndexOutOfBoundsException, IllegalArgumentException {
        requirePlace(stream, STREAMS);
        requireWithin(least, 1, MOST_TOTAL);
        int number = 0;
        for (int item = 0; item < ITEMS; item++) {
            if (streams[stream].reaches(item, least)) {
                number++;
            }
        }
        return number;
    }

    /** Returns a frequent item by its place in their ascending order. */
    public int frequentAt(int stream, int least, int place)
            throws IndexOutOfBoundsException, IllegalArgumentException, NoSuchElementException {
        requirePlace(stream, STREAMS);
        requireWithin(least, 1, MOST_TOTAL);
        int number = 0;
        for (int item = 0; item < ITEMS; item++) {
            if (streams[stream].reaches(item, least)) {
                if (number == place) {
                    return item;
                }
                number++;
            }
        }
        throw new NoSuchElementException("no such place among the frequent items");
    }

    /** Returns the item that is found for a rank by going down the halves. */
    public int itemOfRank(int stream, int rank)
            throws IndexOutOfBoundsException, IllegalArgumentException {
        requirePlace(stream, STREAMS);
        requireWithin(rank, 1, streams[stream].plain.sum());
        int left = rank;
        int half = 0;
        for (int level = TOP_LEVEL - 1; level >= 0; level--) {
            half = 2 * half;
            int first = streams[stream].estimateOf(level, half);
            if (left > first) {
                left -= first;
                half++;
            }
        }
        return half;
    }

    // ---- signed sketches

    /** Returns the column of an item in a row of the signed sketches. */
    public int signedColumn(int row, int item) throws IndexOutOfBoundsException {
        requirePlace(row, SignedSketch.ROWS);
        requirePlace(item, ITEMS);
        return SignedSketch.columnOf(row, item);
    }

    /** Returns the sign of an item in a row of the signed sketches: 1 or -1. */
    public int sign(int row, int item) throws IndexOutOfBoundsException {
        requirePlace(row, SignedSketch.ROWS);
        requirePlace(item, ITEMS);
        return SignedSketch.signOf(row, item);
    }

    /** Returns a cell of the signed sketch of a stream. */
    public int signedCell(int stream, int row, int column) throws IndexOutOfBoundsException {
        requirePlace(stream, STREAMS);
        requirePlace(row, SignedSketch.ROWS);
        requirePlace(column, SignedSketch.COLUMNS);
        return streams[stream].signed.cellAt(row, column);
    }

    /** Returns the signed estimate of an item. */
    public int signedEstimate(int stream, int item) throws IndexOutOfBoundsException {
        requirePlace(stream, STREAMS);
        requirePlace(item, ITEMS);
        return streams[stream].signed.middleEstimate(item);
    }

    /** Returns the signed product of two streams. */
    public long signedProduct(int stream, int other) throws IndexOutOfBoundsException {
        requirePlace(stream, STREAMS);
        requirePlace(other, STREAMS);
        return streams[stream].signed.middleProduct(streams[other].signed);
    }

    // ---- few counters

    /** Returns how many counters a stream has. */
    public int counters(int stream) throws IndexOutOfBoundsException {
        requirePlace(stream, STREAMS);
        return streams[stream].few.used;
    }

    /** Returns the item of a counter by its place in the row. */
    public int counterItem(int stream, int place) throws IndexOutOfBoundsException {
        requirePlace(stream, STREAMS);
        requirePlace(place, streams[stream].few.used);
        return streams[stream].few.items[place];
    }

    /** Returns the weight of the counter of an item; 0 if it has none. */
    public int counterOf(int stream, int item) throws IndexOutOfBoundsException {
        requirePlace(stream, STREAMS);
        requirePlace(item, ITEMS);
        return streams[stream].few.weightOf(item);
    }

    /** Returns the number that was taken. */
    public int taken(int stream) throws IndexOutOfBoundsException {
        requirePlace(stream, STREAMS);
        return streams[stream].few.away;
    }

    // ---- what the calls require

    private static void requirePlace(int place, int size) {
        if (place < 0 || place >= size) {
            throw new IndexOutOfBoundsException("a number is not one of the places");
        }
    }

    private static void requireRange(int from, int to) {
        requirePlace(from, ITEMS);
        requirePlace(to, ITEMS);
        if (to < from) {
            throw new IllegalArgumentException("the range ends before it begins");
        }
    }

    private static void requireWithin(int number, int least, int most) {
        if (number < least || number > most) {
            throw new IllegalArgumentException("a number is out of range");
        }
    }

    private static void requireRoom(int sum) {
        if (sum > MOST_TOTAL) {
            throw new IllegalStateException("the total would be above its limit");
        }
    }

    // ---- halves

    /** The greatest level with a half that begins with the one item and ends up to the other. */
    private static int greatestLevel(int first, int last) {
        int level = 0;
        while (level < TOP_LEVEL && isHalfWithin(level + 1, first, last)) {
            level++;
        }
        return level;
    }

    private static boolean isHalfWithin(int level, int first, int last) {
        int size = 1 << level;
        return (first & (size - 1)) == 0 && first + size - 1 <= last;
    }

    /** All that is kept of one stream. */
    private static final class Stream {
        static final int SKETCHED_LEVELS = 3;

        final PlainCounts plain = new PlainCounts();
        final CarefulSketch[] careful = new CarefulSketch[SKETCHED_LEVELS];
        final SignedSketch signed = new SignedSketch();
        final FewCounters few = new FewCounters();

        Stream() {
            for (int level = 0; level < careful.length; level++) {
                careful[level] = new CarefulSketch();
            }
        }

        void put(int item, int weight) {
            plain.put(item, weight);
            for (int level = 0; level < careful.length; level++) {
                careful[level].put(item >> level, weight);
            }
            signed.put(item, weight);
            few.put(item, weight);
        }

        void join(Stream other) {
            plain.join(other.plain);
            for (int level = 0; level < careful.length; level++) {
                careful[level].join(other.careful[level]);
            }
            signed.join(other.signed);
            few.join(other.few);
        }

        void empty() {
            plain.empty();
            for (int level = 0; level < careful.length; level++) {
                careful[level].empty();
            }
            signed.empty();
            few.empty();
        }

        int estimateOf(int level, int half) {
            if (level < careful.length) {
                return careful[level].leastOf(half);
            }
            return plain.ofHalf(level, half);
        }

        /** Tells whether the estimates of all halves of an item are at least a number. */
        boolean reaches(int item, int least) {
            for (int level = TOP_LEVEL; level >= 0; level--) {
                if (estimateOf(level, item >> level) < least) {
                    return false;
                }
            }
            return true;
        }
    }

    /**
     * The sums of the plain counts of all halves. The half h of a level stands at the place
     * (64 >> level) + h: the one of level 6 at 1, and the two parts of the one at p at 2p and
     * 2p + 1; so the halves of an item are found by halving its place.
     */
    private static final class PlainCounts {
        private final int[] sums = new int[2 * ITEMS];

        void put(int item, int weight) {
            for (int place = ITEMS + item; place > 0; place >>= 1) {
                sums[place] += weight;
            }
        }

        void join(PlainCounts other) {
            for (int place = 0; place < sums.length; place++) {
                sums[place] += other.sums[place];
            }
        }

        void empty() {
            Arrays.fill(sums, 0);
        }

        int sum() {
            return sums[1];
        }

        int ofHalf(int level, int half) {
            return sums[(ITEMS >> level) + half];
        }

        int ofItems(int from, int to) {
            int sum = 0;
            for (int item = from; item <= to; item++) {
                sum += sums[ITEMS + item];
            }
            return sum;
        }

        long times(PlainCounts other) {
            long sum = 0;
            for (int place = ITEMS; place < sums.length; place++) {
                sum += (long) sums[place] * other.sums[place];
            }
            return sum;
        }
    }

    /** The careful sketch of the halves of one level. */
    private static final class CarefulSketch {
        static final int ROWS = 3;
        static final int COLUMNS = 8;
        private static final int PRIME = 61;
        private static final int[] FACTORS = {7, 11, 23};
        private static final int[] SHIFTS = {3, 19, 5};

        private final int[] cells = new int[ROWS * COLUMNS];

        static int columnOf(int row, int half) {
            return (FACTORS[row] * half + SHIFTS[row]) % PRIME % COLUMNS;
        }

        private static int placeOf(int row, int half) {
            return row * COLUMNS + columnOf(row, half);
        }

        int cellAt(int row, int column) {
            return cells[row * COLUMNS + column];
        }

        /** The least cell of a half, which is its estimate. */
        int leastOf(int half) {
            int least = cells[placeOf(0, half)];
            for (int row = 1; row < ROWS; row++) {
                least = Math.min(least, cells[placeOf(row, half)]);
            }
            return least;
        }

        void put(int half, int weight) {
            int reached = leastOf(half) + weight;
            for (int row = 0; row < ROWS; row++) {
                int place = placeOf(row, half);
                cells[place] = Math.max(cells[place], reached);
            }
        }

        void join(CarefulSketch other) {
            for (int place = 0; place < cells.length; place++) {
                cells[place] += other.cells[place];
            }
        }

        void empty() {
            Arrays.fill(cells, 0);
        }
    }

    /** The signed sketch of a stream. */
    private static final class SignedSketch {
        static final int ROWS = 5;
        static final int COLUMNS = 8;
        private static final int MIDDLE = 2;
        private static final int COLUMN_PRIME = 67;
        private static final int[] COLUMN_FACTORS = {5, 9, 14, 27, 33};
        private static final int[] COLUMN_SHIFTS = {1, 8, 2, 40, 17};
        private static final int SIGN_PRIME = 71;
        private static final int[] SIGN_FACTORS = {3, 10, 21, 29, 44};
        private static final int[] SIGN_SHIFTS = {7, 0, 13, 5, 30};

        private final int[] cells = new int[ROWS * COLUMNS];
        // One number for each row, made once and used again by every call that seeks a middle one.
        private final long[] numbers = new long[ROWS];

        static int columnOf(int row, int item) {
            return (COLUMN_FACTORS[row] * item + COLUMN_SHIFTS[row]) % COLUMN_PRIME % COLUMNS;
        }

        static int signOf(int row, int item) {
            return (SIGN_FACTORS[row] * item + SIGN_SHIFTS[row]) % SIGN_PRIME % 2 == 0 ? 1 : -1;
        }

        private static int placeOf(int row, int item) {
            return row * COLUMNS + columnOf(row, item);
        }

        int cellAt(int row, int column) {
            return cells[row * COLUMNS + column];
        }

        void put(int item, int weight) {
            for (int row = 0; row < ROWS; row++) {
                cells[placeOf(row, item)] += signOf(row, item) * weight;
            }
        }

        void join(SignedSketch other) {
            for (int place = 0; place < cells.length; place++) {
                cells[place] += other.cells[place];
            }
        }

        void empty() {
            Arrays.fill(cells, 0);
        }

        int middleEstimate(int item) {
            for (int row = 0; row < ROWS; row++) {
                numbers[row] = signOf(row, item) * cells[placeOf(row, item)];
            }
            return (int) middleNumber();
        }

        long middleProduct(SignedSketch other) {
            for (int row = 0; row < ROWS; row++) {
                numbers[row] = rowProduct(row, other);
            }
            return middleNumber();
        }

        private long rowProduct(int row, SignedSketch other) {
            long sum = 0;
            for (int column = 0; column < COLUMNS; column++) {
                sum += (long) cellAt(row, column) * other.cellAt(row, column);
            }
            return sum;
        }

        /** Puts the numbers in order and returns the middle one. */
        private long middleNumber() {
            for (int end = 1; end < numbers.length; end++) {
                for (int i = end; i > 0 && numbers[i - 1] > numbers[i]; i--) {
                    long greater = numbers[i - 1];
                    numbers[i - 1] = numbers[i];
                    numbers[i] = greater;
                }
            }
            return numbers[MIDDLE];
        }
    }

    /** The few counters of a stream, in a row, and the number that was taken. */
    private static final class FewCounters {
        private static final int LIMIT = 4;

        // Twice the limit, as a merge puts the counters of two streams in one row for a while.
        private final int[] items = new int[2 * LIMIT];
        private final int[] weights = new int[2 * LIMIT];
        private int used;
        private int away;

        int weightOf(int item) {
            int place = placeOf(item);
            return place == NONE ? 0 : weights[place];
        }

        void put(int item, int weight) {
            if (placeOf(item) != NONE || used < LIMIT) {
                grow(item, weight);
                return;
            }
            int amount = Math.min(weight, leastWeight());
            takeAway(amount);
            // What is left finds room, for then the least counter is gone.
            if (weight > amount) {
                grow(item, weight - amount);
            }
        }

        void join(FewCounters other) {
            for (int i = 0; i < other.used; i++) {
                grow(other.items[i], other.weights[i]);
            }
            away += other.away;
            if (used > LIMIT) {
                takeAway(weightReachedBy(LIMIT + 1));
            }
        }

        void empty() {
            used = 0;
            away = 0;
        }

        private int placeOf(int item) {
            for (int i = 0; i < used; i++) {
                if (items[i] == item) {
                    return i;
                }
            }
            return NONE;
        }

        /** Adds a weight to the counter of an item, or to a new one behind the others. */
        private void grow(int item, int weight) {
            int place = placeOf(item);
            if (place != NONE) {
                weights[place] += weight;
            } else if (used < items.length) {
                items[used] = item;
                weights[used] = weight;
                used++;
            }
        }

        /** Subtracts an amount from each counter and lets those go that are not above 0 then. */
        private void takeAway(int amount) {
            int kept = 0;
            for (int i = 0; i < used; i++) {
                int left = weights[i] - amount;
                if (left > 0) {
                    items[kept] = items[i];
                    weights[kept] = left;
                    kept++;
                }
            }
            used = kept;
            away += amount;
        }

        private int leastWeight() {
            int least = weights[0];
            for (int i = 1; i < used; i++) {
                least = Math.min(least, weights[i]);
            }
            return least;
        }

        /** The greatest weight that at least so many counters reach. */
        private int weightReachedBy(int number) {
            int greatest = 0;
            for (int i = 0; i < used; i++) {
                if (weights[i] > greatest && countersReaching(weights[i]) >= number) {
                    greatest = weights[i];
                }
            }
            return greatest;
        }

        private int countersReaching(int weight) {
            int number = 0;
            for (int i = 0; i < used; i++) {
                if (weights[i] >= weight) {
                    number++;
                }
            }
            return number;
        }
    }
}
