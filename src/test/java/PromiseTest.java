import java.util.NoSuchElementException;

/** Each promise with ordinary numbers, at its edges, and with numbers that it refuses. */
final class PromiseTest {
    private static final Class<?> INDEX = IndexOutOfBoundsException.class;
    private static final Class<?> ARGUMENT = IllegalArgumentException.class;
    private static final Class<?> STATE = IllegalStateException.class;
    private static final Class<?> ELEMENT = NoSuchElementException.class;
    private static final int LEAST = Integer.MIN_VALUE;
    private static final int MOST = Integer.MAX_VALUE;
    private static final int[] NO_STREAMS = {-1, 4, LEAST, MOST};
    private static final int[] NO_ITEMS = {-1, 64, LEAST, MOST};

    private interface Asked {
        long at(int number);
    }

    public static void main(String[] args) {
        promise1();
        promise2();
        promise2WhenFull();
        promise3();
        promise3Counters();
        promise3Refusals();
        promise4();
        promise5And6();
        promise7();
        promise8();
        promise9();
        promise10();
        promise11();
        promise12();
        promise13();
        promise14();
        promise15();
        promise16();
        promise17();
        promise18();
        promise19();
        promise20();
        promise21();
        promise22();
        promise23And24();
        promise25();
        promise26();
        refusalsChangeNothing();
        Check.end("PromiseTest");
    }

    private static void promise1() {
        Countcote x = new Countcote();
        for (int stream = 0; stream < 4; stream++) {
            checkEmpty("1: a new stream " + stream, x, stream);
        }
        x.add(2, 5, 7);
        checkEmpty("1: another object", new Countcote(), 2);
    }

    /** Asks about 120 things, of which not one is left in an empty stream. */
    private static void checkEmpty(String what, Countcote x, int stream) {
        Check.answers(what + ": total", 0, x.total(stream));
        Check.answers(what + ": counters", 0, x.counters(stream));
        Check.answers(what + ": taken", 0, x.taken(stream));
        Check.answers(what + ": product", 0, x.product(stream, stream));
        Check.answers(what + ": signedProduct", 0, x.signedProduct(stream, stream));
        Check.answers(what + ": countOfRange", 0, x.countOfRange(stream, 0, 63));
        Check.answers(what + ": estimate at level 6", 0, x.estimate(stream, 6, 0));
        Check.answers(what + ": counterOf", 0, x.counterOf(stream, 5));
        Check.refuses(what + ": itemOfRank", ARGUMENT, () -> x.itemOfRank(stream, 1));
        Check.refuses(what + ": counterItem", INDEX, () -> x.counterItem(stream, 0));
        for (int cell = 0; cell < 72; cell++) {
            Check.answers(what + ": cell " + cell, 0, x.cell(stream, cell / 24, cell / 8 % 3, cell % 8));
        }
        for (int cell = 0; cell < 40; cell++) {
            Check.answers(what + ": signedCell " + cell, 0, x.signedCell(stream, cell / 8, cell % 8));
        }
    }

    private static void promise2() {
        Countcote x = new Countcote();
        Check.answers("2: the least weight", 1, x.add(0, 0, 1));
        Check.answers("2: the greatest weight", 1001, x.add(0, 63, 1000));
        Check.answers("2: another stream", 3, x.add(3, 0, 3));
        for (int stream : NO_STREAMS) {
            Check.refuses("2: stream " + stream, INDEX, () -> x.add(stream, 0, 0));
        }
        for (int item : NO_ITEMS) {
            Check.refuses("2: item " + item, INDEX, () -> x.add(0, item, 0));
        }
        for (int weight : new int[] {0, -1, 1001, LEAST, MOST}) {
            Check.refuses("2: weight " + weight, ARGUMENT, () -> x.add(0, 0, weight));
        }
        Check.answers("2: after refusals", 1001, x.total(0));
    }

    private static void promise2WhenFull() {
        Countcote x = filled();
        Check.answers("2: nearly full", 999999, x.add(0, 1, 999));
        Check.refuses("2: above the limit by one", STATE, () -> x.add(0, 1, 2));
        Check.refuses("2: a wrong weight of a full stream", ARGUMENT, () -> x.add(0, 1, 1001));
        Check.refuses("2: no item of a full stream", INDEX, () -> x.add(0, 64, 1000));
        Check.answers("2: just full", 1000000, x.add(0, 1, 1));
        Check.refuses("2: full", STATE, () -> x.add(0, 1, 1));
        Check.answers("2: the total of the full one", 1000000, x.total(0));
        Check.answers("2: the count in the full one", 1000, x.count(0, 1));
        Check.answers("2: another stream is not full", 1, x.add(1, 1, 1));
    }

    /** The stream 0 holds 999000 of the item 7; the others are empty. */
    private static Countcote filled() {
        Countcote x = new Countcote();
        x.add(1, 7, 999);
        x.merge(2, 1);
        x.merge(1, 2);
        x.merge(1, 2);
        x.merge(2, 1);
        x.merge(2, 1);
        x.merge(2, 1);
        // The stream 2 holds ten times 999 now.
        for (int hundreds = 0; hundreds < 10; hundreds++) {
            x.merge(3, 2);
        }
        for (int thousand = 0; thousand < 10; thousand++) {
            x.merge(0, 3);
        }
        x.clear(1);
        x.clear(2);
        x.clear(3);
        return x;
    }

    private static void promise3() {
        Countcote x = new Countcote();
        x.add(0, 5, 10);
        x.add(0, 40, 1);
        x.add(1, 5, 3);
        x.add(1, 6, 4);
        Check.answers("3: the total then", 18, x.merge(0, 1));
        Check.answers("3: a plain count of both", 13, x.count(0, 5));
        Check.answers("3: a plain count of the other", 4, x.count(0, 6));
        Check.answers("3: a cell of both", 13, x.cell(0, 0, 0, 6));
        Check.answers("3: a cell at level 1 of both", 13, x.cell(0, 1, 0, 1));
        Check.answers("3: a count of a half of both", 17, x.estimate(0, 3, 0));
        Check.answers("3: the count of the whole", 18, x.estimate(0, 6, 0));
        Check.answers("3: a signed cell of both", x.sign(0, 5) * 13, x.signedCell(0, 0, x.signedColumn(0, 5)));
        Check.answers("3: the other's total stays", 7, x.total(1));
        Check.answers("3: the other's count stays", 3, x.count(1, 5));
        Check.answers("3: the other's cell stays", 3, x.cell(1, 0, 0, 6));
        Check.answers("3: an empty one is merged", 18, x.merge(0, 2));
        Check.answers("3: one is merged with an empty one", 18, x.merge(2, 0));
        Check.answers("3: they part again", 20, x.add(2, 5, 2));
        Check.answers("3: the first one stays then", 18, x.total(0));
        Check.answers("3: level 2", 17, x.cell(0, 2, 2, x.column(2, 1)));
        Countcote y = new Countcote();
        y.add(0, 5, 10);
        y.add(1, 16, 4);
        y.merge(0, 1);
        Check.answers("3: a cell of different items", 14, y.cell(0, 0, 0, 6));
    }

    private static void promise3Counters() {
        Countcote x = new Countcote();
        addAll(x, 0, 1, 10, 2, 20);
        addAll(x, 1, 3, 7, 2, 5, 4, 8);
        x.merge(0, 1);
        checkCounters("3: four counters of two streams", x, 0, 0, 1, 10, 2, 25, 3, 7, 4, 8);
        checkCounters("3: the other one's counters stay", x, 1, 0, 3, 7, 2, 5, 4, 8);
        addAll(x, 2, 6, 9, 5, 7, 1, 1);
        x.merge(0, 2);
        checkCounters("3: the fifth greatest is taken", x, 0, 7, 1, 4, 2, 18, 4, 1, 6, 2);
        addAll(x, 3, 7, 1, 8, 1, 9, 1, 10, 1, 11, 1);
        checkCounters("3: all four taken", x, 3, 1);
        x.merge(0, 3);
        checkCounters("3: the numbers taken are summed", x, 0, 8, 1, 4, 2, 18, 4, 1, 6, 2);
        Countcote y = new Countcote();
        addAll(y, 0, 1, 5, 2, 5, 3, 5, 4, 5);
        addAll(y, 1, 5, 5, 6, 6, 7, 5, 8, 5);
        y.merge(0, 1);
        checkCounters("3: of equal weights each counts", y, 0, 5, 6, 1);
    }

    private static void promise3Refusals() {
        Countcote x = filled();
        x.add(1, 2, 1000);
        x.add(2, 2, 1);
        for (int stream : NO_STREAMS) {
            Check.refuses("3: stream " + stream, INDEX, () -> x.merge(stream, 0));
            Check.refuses("3: other " + stream, INDEX, () -> x.merge(0, stream));
            Check.refuses("3: twice " + stream, INDEX, () -> x.merge(stream, stream));
        }
        Check.refuses("3: a small one with itself", ARGUMENT, () -> x.merge(2, 2));
        Check.refuses("3: a great one with itself", ARGUMENT, () -> x.merge(0, 0));
        Check.answers("3: just full", 1000000, x.merge(0, 1));
        Check.refuses("3: above the limit by one", STATE, () -> x.merge(0, 2));
        Check.refuses("3: above the limit by one, the other way", STATE, () -> x.merge(2, 0));
        Check.answers("3: an empty one into the full one", 1000000, x.merge(0, 3));
        Check.answers("3: a refusal changes nothing", 1000000, x.countOfRange(0, 0, 63));
        Check.answers("3: a refusal changes nothing, the other way", 1, x.total(2));
    }

    private static void promise4() {
        Countcote x = new Countcote();
        addAll(x, 1, 1, 10, 2, 20, 3, 30, 4, 40, 5, 50);
        addAll(x, 2, 1, 10, 2, 20, 3, 30, 4, 40, 5, 50);
        Check.answers("4: the total before", 150, x.clear(1));
        checkEmpty("4: the emptied stream", x, 1);
        Check.answers("4: another stream stays", 150, x.total(2));
        Check.answers("4: an empty one", 0, x.clear(1));
        Check.answers("4: adding to the emptied one", 6, x.add(1, 9, 6));
        checkCounters("4: counters begin anew", x, 1, 0, 9, 6);
        refusesStreams("4", x::clear);
    }

    private static void promise5And6() {
        Countcote x = new Countcote();
        addAll(x, 3, 63, 4, 0, 5, 63, 6);
        Check.answers("5: a total", 15, x.total(3));
        Check.answers("5: an empty one's total", 0, x.total(0));
        refusesStreams("5", x::total);
        Check.answers("6: the last item", 10, x.count(3, 63));
        Check.answers("6: the first item", 5, x.count(3, 0));
        Check.answers("6: an item that was never added", 0, x.count(3, 62));
        refusesStreams("6", stream -> x.count(stream, 0));
        refusesItems("6", item -> x.count(0, item));
    }

    private static void promise7() {
        Countcote x = new Countcote();
        addAll(x, 0, 0, 1, 5, 20, 6, 300, 63, 400);
        Check.answers("7: all items", 721, x.countOfRange(0, 0, 63));
        Check.answers("7: one item", 20, x.countOfRange(0, 5, 5));
        Check.answers("7: with both ends", 320, x.countOfRange(0, 5, 6));
        Check.answers("7: between", 0, x.countOfRange(0, 7, 62));
        Check.answers("7: the last one", 400, x.countOfRange(0, 63, 63));
        refusesRanges("7", (from, to) -> x.countOfRange(0, from, to));
        refusesStreams("7", stream -> x.countOfRange(stream, 0, 63));
        refusesStreams("7: before the range", stream -> x.countOfRange(stream, 3, 2));
    }

    private static void promise8() {
        Countcote x = new Countcote();
        addAll(x, 0, 1, 3, 2, 4, 63, 5);
        addAll(x, 1, 2, 10, 3, 7, 63, 1);
        Check.answers("8: two streams", 45, x.product(0, 1));
        Check.answers("8: the other way", 45, x.product(1, 0));
        Check.answers("8: one twice", 50, x.product(0, 0));
        Check.answers("8: an empty one", 0, x.product(0, 2));
        Check.answers("8: beyond an int", 998001000000L, filled().product(0, 0));
        refusesStreams("8", stream -> x.product(stream, 0));
        refusesStreams("8: other", stream -> x.product(0, stream));
    }

    private static void promise9() {
        Countcote x = new Countcote();
        int[] first = {3, 3, 5};
        int[] last = {1, 1, 3};
        int[] factors = {7, 11, 23};
        int[] shifts = {3, 19, 5};
        for (int row = 0; row < 3; row++) {
            Check.answers("9: the first half in row " + row, first[row], x.column(row, 0));
            Check.answers("9: the last half in row " + row, last[row], x.column(row, 63));
            for (int half = 0; half < 64; half++) {
                int due = (factors[row] * half + shifts[row]) % 61 % 8;
                Check.answers("9: column(" + row + ", " + half + ")", due, x.column(row, half));
            }
        }
        refusesRows("9", 3, row -> x.column(row, 0));
        refusesItems("9", half -> x.column(0, half));
    }

    private static void promise10() {
        Countcote x = new Countcote();
        // At level 0 both items are in column 6 of row 0, and apart in the rows 1 and 2.
        addAll(x, 0, 5, 10, 16, 4);
        Check.answers("10: the greater one stays", 10, x.cell(0, 0, 0, 6));
        Check.answers("10: a cell of the one", 10, x.cell(0, 0, 1, 5));
        Check.answers("10: a cell of the other", 4, x.cell(0, 0, 1, 4));
        Check.answers("10: row 2", 4, x.cell(0, 0, 2, 7));
        Check.answers("10: level 1", 4, x.cell(0, 1, 2, x.column(2, 8)));
        Check.answers("10: level 2", 10, x.cell(0, 2, 1, x.column(1, 1)));
        x.add(0, 16, 7);
        Check.answers("10: the estimate and the weight", 11, x.cell(0, 0, 0, 6));
        Check.answers("10: in each row", 11, x.cell(0, 0, 2, 7));
        refusesStreams("10", stream -> x.cell(stream, 0, 0, 0));
        refusesRows("10: level", 3, level -> x.cell(0, level, 0, 0));
        refusesRows("10: row", 3, row -> x.cell(0, 0, row, 0));
        refusesRows("10: column", 8, column -> x.cell(0, 0, 0, column));
        Check.answers("10: the last cell", 0, x.cell(3, 2, 2, 7));
    }

    private static void promise11() {
        Countcote x = new Countcote();
        addAll(x, 0, 5, 10, 13, 4, 63, 100);
        Check.answers("11: the least cell", 4, x.estimate(0, 0, 13));
        Check.answers("11: level 1", 10, x.estimate(0, 1, 2));
        Check.answers("11: level 2", 10, x.estimate(0, 2, 1));
        Check.answers("11: level 3", 10, x.estimate(0, 3, 0));
        Check.answers("11: level 3, the second half", 4, x.estimate(0, 3, 1));
        Check.answers("11: level 4", 14, x.estimate(0, 4, 0));
        Check.answers("11: level 5", 100, x.estimate(0, 5, 1));
        Check.answers("11: level 6", 114, x.estimate(0, 6, 0));
        refusesStreams("11", stream -> x.estimate(stream, 0, 0));
        refusesRows("11: level", 7, level -> x.estimate(0, level, 0));
        for (int level = 0; level <= 6; level++) {
            int at = level;
            refusesRows("11: half of level " + level, 64 >> level, half -> x.estimate(0, at, half));
            Check.holds("11: never too little", x.estimate(0, level, 63 >> level) >= 100);
        }
        Check.refuses("11: level 32, at which a shift begins anew", INDEX, () -> x.estimate(0, 32, 0));
    }

    private static void promise12() {
        Countcote x = new Countcote();
        Check.answersDouble("12: an empty stream", 0.0, x.share(0, 5));
        addAll(x, 0, 5, 13, 13, 4, 40, 2);
        Check.answersDouble("12: a share", 0.6842105263157895, x.share(0, 5));
        Check.answersDouble("12: another one", 4.0 / 19.0, x.share(0, 13));
        Check.answersDouble("12: the whole", 1.0, filled().share(0, 7));
        x.clear(0);
        Check.answersDouble("12: an emptied stream", 0.0, x.share(0, 5));
        Check.same("12: no stream", "throws " + INDEX.getName(), Check.outcome(() -> x.share(4, 0)));
        Check.same("12: no stream below", "throws " + INDEX.getName(), Check.outcome(() -> x.share(-1, 0)));
        Check.same("12: no item", "throws " + INDEX.getName(), Check.outcome(() -> x.share(0, 64)));
        Check.same("12: no item below", "throws " + INDEX.getName(), Check.outcome(() -> x.share(0, -1)));
    }

    private static void promise13() {
        Countcote x = new Countcote();
        Check.answers("13: the whole", 1, x.parts(0, 63));
        Check.answers("13: one item", 1, x.parts(31, 31));
        Check.answers("13: 1 to 62", 10, x.parts(1, 62));
        Check.answers("13: 0 to 62", 6, x.parts(0, 62));
        Check.answers("13: 1 to 63", 6, x.parts(1, 63));
        Check.answers("13: over the middle", 2, x.parts(31, 32));
        Check.answers("13: not from an even place", 2, x.parts(1, 2));
        Check.answers("13: 2, 4 to 7, 8", 3, x.parts(2, 8));
        Check.answers("13: the second half", 1, x.parts(32, 63));
        refusesRanges("13", x::parts);
    }

    private static void promise14() {
        Countcote x = new Countcote();
        addAll(x, 0, 0, 1, 1, 2, 2, 4, 8, 8, 31, 16, 32, 32, 63, 64);
        Check.answers("14: the whole", 127, x.estimateOfRange(0, 0, 63));
        Check.answers("14: a half of level 5", 31, x.estimateOfRange(0, 0, 31));
        Check.answers("14: a half of level 3", 7, x.estimateOfRange(0, 0, 7));
        int parts = x.estimate(0, 0, 1) + x.estimate(0, 1, 1) + x.estimate(0, 2, 1) + x.estimate(0, 3, 1) + x.estimate(0, 0, 16);
        Check.answers("14: halves of levels 0 to 3", parts, x.estimateOfRange(0, 1, 16));
        Check.answers("14: one item", x.estimate(0, 0, 63), x.estimateOfRange(0, 63, 63));
        Check.answers("14: another stream", 0, x.estimateOfRange(1, 0, 63));
        refusesRanges("14", (from, to) -> x.estimateOfRange(0, from, to));
        refusesStreams("14", stream -> x.estimateOfRange(stream, 0, 63));
        refusesStreams("14: before the range", stream -> x.estimateOfRange(stream, 3, 2));
    }

    private static void promise15() {
        Countcote x = new Countcote();
        addAll(x, 0, 3, 50, 17, 20, 60, 9);
        Check.answers("15: at least 51", 0, x.frequent(0, 51));
        Check.answers("15: at least 50", 1, x.frequent(0, 50));
        Check.answers("15: at least 20", 2, x.frequent(0, 20));
        Check.answers("15: at least 9", 3, x.frequent(0, 9));
        Check.answers("15: the greatest number", 0, x.frequent(0, 1000000));
        Check.answers("15: an empty stream", 0, x.frequent(1, 1));
        refusesLeast("15", least -> x.frequent(0, least));
        refusesStreams("15", stream -> x.frequent(stream, 1));
        refusesStreams("15: before the number", stream -> x.frequent(stream, 0));
        Countcote full = filled();
        full.add(0, 7, 1000);
        Check.answers("15: the greatest number is reached", 1, full.frequent(0, 1000000));
        Check.answers("15: all items", 64, withAllItems().frequent(0, 1));
    }

    private static Countcote withAllItems() {
        Countcote x = new Countcote();
        for (int item = 0; item < 64; item++) {
            x.add(0, item, 1);
        }
        return x;
    }

    private static void promise16() {
        Countcote x = new Countcote();
        addAll(x, 0, 60, 50, 3, 20, 17, 9);
        Check.answers("16: the first place", 3, x.frequentAt(0, 9, 0));
        Check.answers("16: the second place", 17, x.frequentAt(0, 9, 1));
        Check.answers("16: the third place", 60, x.frequentAt(0, 9, 2));
        Check.answers("16: fewer ones", 60, x.frequentAt(0, 50, 0));
        for (int place : new int[] {-1, 3, LEAST, MOST}) {
            Check.refuses("16: place " + place, ELEMENT, () -> x.frequentAt(0, 9, place));
            refusesLeast("16: before the place", least -> x.frequentAt(0, least, place));
        }
        Countcote all = withAllItems();
        Check.answers("16: the first item", 0, all.frequentAt(0, 1, 0));
        Check.answers("16: the last item", 63, all.frequentAt(0, 1, 63));
        Check.refuses("16: behind the last item", ELEMENT, () -> all.frequentAt(0, 1, 64));
        Check.refuses("16: no frequent item", ELEMENT, () -> x.frequentAt(0, 51, 0));
        Check.refuses("16: an empty stream", ELEMENT, () -> x.frequentAt(1, 1, 0));
        refusesStreams("16", stream -> x.frequentAt(stream, 9, 0));
        refusesStreams("16: before the number", stream -> x.frequentAt(stream, 0, 9));
    }

    private static void promise17() {
        Countcote x = new Countcote();
        addAll(x, 0, 10, 3, 20, 4, 50, 5);
        int[] due = {10, 10, 10, 20, 20, 20, 20, 50, 50, 50, 50, 50};
        for (int rank = 1; rank <= 12; rank++) {
            Check.answers("17: rank " + rank, due[rank - 1], x.itemOfRank(0, rank));
        }
        for (int rank : new int[] {0, 13, -1, LEAST, MOST}) {
            Check.refuses("17: rank " + rank, ARGUMENT, () -> x.itemOfRank(0, rank));
        }
        Check.refuses("17: an empty stream", ARGUMENT, () -> x.itemOfRank(1, 1));
        refusesStreams("17", stream -> x.itemOfRank(stream, 1));
        refusesStreams("17: before the rank", stream -> x.itemOfRank(stream, 0));
        promise17WhenEstimatesAreTooGreat();
    }

    /** The item 0 was never added, but has the columns of the item 61 in each row. */
    private static void promise17WhenEstimatesAreTooGreat() {
        Countcote x = new Countcote();
        x.add(0, 61, 5);
        x.add(0, 1, 9);
        Check.answers("17: the estimate of 0 is too great", 5, x.estimate(0, 0, 0));
        Check.answers("17: so 0 is found", 0, x.itemOfRank(0, 1));
        Check.answers("17: as long as its estimate goes", 0, x.itemOfRank(0, 5));
        Check.answers("17: then 1", 1, x.itemOfRank(0, 6));
        Check.answers("17: up to the half of level 5", 1, x.itemOfRank(0, 9));
        Check.answers("17: beyond it", 61, x.itemOfRank(0, 10));
    }

    private static void promise18() {
        Countcote x = new Countcote();
        int[] first = {1, 0, 2, 0, 1};
        int[] last = {0, 7, 5, 2, 3};
        int[] factors = {5, 9, 14, 27, 33};
        int[] shifts = {1, 8, 2, 40, 17};
        for (int row = 0; row < 5; row++) {
            Check.answers("18: the first item in row " + row, first[row], x.signedColumn(row, 0));
            Check.answers("18: the last item in row " + row, last[row], x.signedColumn(row, 63));
            for (int item = 0; item < 64; item++) {
                int due = (factors[row] * item + shifts[row]) % 67 % 8;
                Check.answers("18: signedColumn(" + row + ", " + item + ")", due, x.signedColumn(row, item));
            }
        }
        refusesRows("18", 5, row -> x.signedColumn(row, 0));
        refusesItems("18", item -> x.signedColumn(0, item));
    }

    private static void promise19() {
        Countcote x = new Countcote();
        int[] first = {-1, 1, -1, -1, 1};
        int[] last = {1, 1, 1, -1, -1};
        int[] factors = {3, 10, 21, 29, 44};
        int[] shifts = {7, 0, 13, 5, 30};
        for (int row = 0; row < 5; row++) {
            Check.answers("19: the first item in row " + row, first[row], x.sign(row, 0));
            Check.answers("19: the last item in row " + row, last[row], x.sign(row, 63));
            for (int item = 0; item < 64; item++) {
                int due = (factors[row] * item + shifts[row]) % 71 % 2 == 0 ? 1 : -1;
                Check.answers("19: sign(" + row + ", " + item + ")", due, x.sign(row, item));
            }
        }
        refusesRows("19", 5, row -> x.sign(row, 0));
        refusesItems("19", item -> x.sign(0, item));
    }

    private static void promise20() {
        Countcote x = new Countcote();
        x.add(2, 0, 10);
        Check.answers("20: a sign below 0", -10, x.signedCell(2, 0, 1));
        Check.answers("20: a sign above 0", 10, x.signedCell(2, 1, 0));
        Check.answers("20: row 4", 10, x.signedCell(2, 4, 1));
        Check.answers("20: another column", 0, x.signedCell(2, 0, 0));
        Check.answers("20: another stream", 0, x.signedCell(1, 0, 1));
        x.add(2, 63, 4);
        Check.answers("20: the last item", 4, x.signedCell(2, 0, 0));
        Check.answers("20: the last item in row 3", -4, x.signedCell(2, 3, 2));
        refusesStreams("20", stream -> x.signedCell(stream, 0, 0));
        refusesRows("20: row", 5, row -> x.signedCell(0, row, 0));
        refusesRows("20: column", 8, column -> x.signedCell(0, 0, column));
        Check.answers("20: the last cell", 0, x.signedCell(3, 4, 7));
    }

    private static void promise21() {
        Countcote x = new Countcote();
        x.add(0, 5, 13);
        Check.answers("21: one item alone", 13, x.signedEstimate(0, 5));
        for (int item = 0; item < 64; item++) {
            // For each item a new object: all of them would be more than 512 calls.
            Countcote y = new Countcote();
            addAll(y, 0, 5, 13, 63, 1000);
            Check.answers("21: item " + item, middleOfProducts(y, item), y.signedEstimate(0, item));
        }
        Check.answers("21: an empty stream", 0, x.signedEstimate(1, 5));
        Check.answers("21: a great one", 999000, filled().signedEstimate(0, 7));
        refusesStreams("21", stream -> x.signedEstimate(stream, 0));
        refusesItems("21", item -> x.signedEstimate(0, item));
    }

    private static int middleOfProducts(Countcote x, int item) {
        int[] five = new int[5];
        for (int row = 0; row < 5; row++) {
            five[row] = x.sign(row, item) * x.signedCell(0, row, x.signedColumn(row, item));
        }
        java.util.Arrays.sort(five);
        return five[2];
    }

    private static void promise22() {
        Countcote x = new Countcote();
        addAll(x, 0, 5, 13, 13, 4, 40, 2);
        // In row 1 the items are in cells of their own, in the others two of them share one.
        Check.answers("22: one stream twice", 205, x.signedProduct(0, 0));
        Check.answers("22: an empty one", 0, x.signedProduct(0, 1));
        x.add(1, 5, 3);
        Check.answers("22: the other way", x.signedProduct(0, 1), x.signedProduct(1, 0));
        x.clear(0);
        x.add(0, 5, 7);
        Check.answers("22: one item in both", 21, x.signedProduct(0, 1));
        Check.answers("22: beyond an int", 998001000000L, filled().signedProduct(0, 0));
        refusesStreams("22", stream -> x.signedProduct(stream, 0));
        refusesStreams("22: other", stream -> x.signedProduct(0, stream));
    }

    private static void promise23And24() {
        Countcote x = new Countcote();
        int[] items = {9, 0, 63, 5};
        for (int i = 0; i < 4; i++) {
            x.add(1, items[i], 10 + i);
            Check.answers("23: with each new item", i + 1, x.counters(1));
            Check.answers("24: behind the others", items[i], x.counterItem(1, i));
        }
        x.add(1, 63, 1);
        Check.answers("23: an item that has one", 4, x.counters(1));
        x.add(1, 1, 10);
        Check.answers("23: the least one is gone", 3, x.counters(1));
        Check.answers("24: the next one moves up", 0, x.counterItem(1, 0));
        Check.answers("24: the last one moves up", 5, x.counterItem(1, 2));
        Check.refuses("24: the place that is free then", INDEX, () -> x.counterItem(1, 3));
        Check.refuses("24: place -1", INDEX, () -> x.counterItem(1, -1));
        Check.refuses("24: the greatest place", INDEX, () -> x.counterItem(1, MOST));
        Check.refuses("24: an empty stream", INDEX, () -> x.counterItem(0, 0));
        refusesStreams("23", x::counters);
        refusesStreams("24", stream -> x.counterItem(stream, 0));
    }

    private static void promise25() {
        Countcote x = new Countcote();
        addAll(x, 0, 1, 10, 2, 20, 3, 30, 4, 40);
        x.add(0, 2, 5);
        checkCounters("25: a counter grows", x, 0, 0, 1, 10, 2, 25, 3, 30, 4, 40);
        x.add(0, 5, 10);
        checkCounters("25: the whole weight is taken", x, 0, 10, 2, 15, 3, 20, 4, 30);
        Check.answers("25: an item without one", 0, x.counterOf(0, 5));
        Check.answers("25: an item that had one", 0, x.counterOf(0, 1));
        x.add(0, 6, 8);
        x.add(0, 7, 12);
        checkCounters("25: what is left gets a counter", x, 0, 18, 2, 7, 3, 12, 4, 22, 7, 4);
        x.add(0, 8, 3);
        checkCounters("25: less than the least one", x, 0, 21, 2, 4, 3, 9, 4, 19, 7, 1);
        refusesStreams("25", stream -> x.counterOf(stream, 0));
        refusesItems("25", item -> x.counterOf(0, item));
    }

    private static void promise26() {
        Countcote x = new Countcote();
        addAll(x, 0, 1, 6, 2, 6, 3, 6, 4, 6);
        Check.answers("26: nothing is taken yet", 0, x.taken(0));
        x.add(0, 5, 7);
        checkCounters("26: all four are gone, one is left", x, 0, 6, 5, 1);
        Check.answers("26: another stream", 0, x.taken(1));
        x.merge(1, 0);
        Check.answers("26: merged", 6, x.taken(1));
        x.merge(1, 0);
        Check.answers("26: merged again", 12, x.taken(1));
        refusesStreams("26", x::taken);
    }

    private static void refusalsChangeNothing() {
        Countcote x = filled();
        addAll(x, 1, 1, 1000, 2, 1000, 3, 1000, 4, 1000);
        int cell = x.cell(0, 0, 0, x.column(0, 1));
        int signedCell = x.signedCell(0, 2, x.signedColumn(2, 1));
        Check.refuses("a full stream", STATE, () -> x.merge(0, 1));
        x.add(0, 7, 500);
        Check.refuses("a full stream again", STATE, () -> x.add(0, 1, 501));
        Check.answers("a refusal leaves the cells", cell, x.cell(0, 0, 0, x.column(0, 1)));
        Check.answers("a refusal leaves the signed cells", signedCell, x.signedCell(0, 2, x.signedColumn(2, 1)));
        checkCounters("a refusal leaves the counters", x, 0, 0, 7, 999500);
        Check.answers("a refusal leaves the plain counts", 999500, x.countOfRange(0, 0, 63));
    }

    /** Adds items with weights: each item, and behind it its weight. */
    private static void addAll(Countcote x, int stream, int... itemsAndWeights) {
        for (int i = 0; i + 1 < itemsAndWeights.length; i += 2) {
            x.add(stream, itemsAndWeights[i], itemsAndWeights[i + 1]);
        }
    }

    private static void checkCounters(String what, Countcote x, int stream, int taken, int... itemsAndWeights) {
        int due = itemsAndWeights.length / 2;
        Check.answers(what + ": taken", taken, x.taken(stream));
        Check.answers(what + ": counters", due, x.counters(stream));
        for (int place = 0; place < due && place < x.counters(stream); place++) {
            int item = itemsAndWeights[2 * place];
            Check.answers(what + ": item at " + place, item, x.counterItem(stream, place));
            Check.answers(what + ": weight of " + item, itemsAndWeights[2 * place + 1], x.counterOf(stream, item));
        }
    }

    private interface AskedRange {
        long at(int from, int to);
    }

    private static void refusesRanges(String what, AskedRange asked) {
        for (int item : NO_ITEMS) {
            Check.refuses(what + ": from " + item, INDEX, () -> asked.at(item, 5));
            Check.refuses(what + ": to " + item, INDEX, () -> asked.at(5, item));
        }
        Check.refuses(what + ": to before from", ARGUMENT, () -> asked.at(6, 5));
        Check.refuses(what + ": the whole backwards", ARGUMENT, () -> asked.at(63, 0));
    }

    private static void refusesLeast(String what, Asked asked) {
        for (int least : new int[] {0, -1, 1000001, LEAST, MOST}) {
            Check.refuses(what + ": least " + least, ARGUMENT, () -> asked.at(least));
        }
    }

    private static void refusesStreams(String what, Asked asked) {
        for (int stream : NO_STREAMS) {
            Check.refuses(what + ": stream " + stream, INDEX, () -> asked.at(stream));
        }
    }

    private static void refusesItems(String what, Asked asked) {
        for (int item : NO_ITEMS) {
            Check.refuses(what + ": item " + item, INDEX, () -> asked.at(item));
        }
    }

    private static void refusesRows(String what, int rows, Asked asked) {
        for (int row : new int[] {-1, rows, LEAST, MOST}) {
            Check.refuses(what + ": " + row + " of " + rows, INDEX, () -> asked.at(row));
        }
    }
}
