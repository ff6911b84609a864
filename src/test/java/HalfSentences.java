/** The sentences of the promises 9 to 17 that name a boundary case: careful sketches and halves. */
final class HalfSentences {
    private static final String NO_STREAM = "Throws `IndexOutOfBoundsException` if there is no such stream";
    private static final String NO_FROM_OR_TO = "Throws `IndexOutOfBoundsException` if there is no item from or to";
    private static final String NO_STREAM_FROM_OR_TO = NO_STREAM + ", or no item from or to";
    private static final String BACKWARDS = "Throws `IllegalArgumentException` if to is less than from";
    private static final String LEAST = "- `least`: 1 to 1000000";
    private static final String LEAST_OUT = "Throws `IllegalArgumentException` if least is out of range";
    private static final String SHARE = "Returns the share of an item by its estimate: the estimate of its half at "
            + "level 0 as a double, divided by the total; 0.0 for an empty stream.";
    private static final String PARTS = "Returns how many halves a range of items is made of: from the first item on, "
            + "each time the half of the greatest level is taken that begins with the next item and does not go beyond "
            + "the last one.";
    private static final String FREQUENT = "Returns how many items are frequent: the estimates of all halves to which "
            + "they belong, at the levels 0 to 6, are at least a number.";
    private static final String RANK = "Returns the item that is found for a rank by going down the halves: from the "
            + "half of level 6, each time to one of its two halves of the level below: to the first one (with the "
            + "lower number) if the rank is not greater than its estimate; otherwise this estimate is subtracted from "
            + "the rank, and to the second one.";

    private HalfSentences() {
    }

    /** The half 0 has estimates that are too great at the levels 0 to 2. */
    private static Countcote shared() {
        return Givens.with(0, 1, 1, 2, 2, 4, 8, 8, 31, 16, 32, 32, 63, 64);
    }

    private static Countcote full() {
        return Givens.made(Givens.holding(1000000));
    }

    private static Countcote withAllItems() {
        Countcote x = new Countcote();
        for (int item = 0; item < 64; item++) {
            x.add(0, item, 1);
        }
        return x;
    }

    @Sentence(of = "Promise 9", says = "Returns the column of a half in a row of the careful sketches.")
    static void columnsStayAsTheyAre() {
        Countcote x = new Countcote();
        Check.answers("in a new object", 6, x.column(0, 5));
        Givens.BUSY.on(x);
        Check.answers("in a busy one", 6, x.column(0, 5));
    }

    @Sentence(of = "Promise 9", says = "- `row`: 0 to 2")
    static void columnsInTheFirstAndTheLastRow() {
        Countcote x = new Countcote();
        Check.answers("the first row", 4, x.column(0, 7));
        Check.answers("the last row", 4, x.column(2, 1));
        Check.answers("the last row, another half", 3, x.column(2, 5));
    }

    @Sentence(of = "Promise 9", says = "- `half`: 0 to 63")
    static void columnsOfTheFirstAndTheLastHalf() {
        Countcote x = new Countcote();
        int[] first = {3, 3, 5};
        int[] last = {1, 1, 3};
        for (int row = 0; row < 3; row++) {
            Check.answers("the first half in row " + row, first[row], x.column(row, 0));
            Check.answers("the last half in row " + row, last[row], x.column(row, 63));
        }
    }

    @Sentence(of = "Promise 9", says = "Throws `IndexOutOfBoundsException` if row or half is out of range")
    static void columnOfNoRowOrHalf() {
        Refusals.refusesEach(Refusals.around(3), Refusals.INDEX, Givens.BUSY, (x, row) -> x.column(row, 0));
        Refusals.refusesEach(Refusals.around(64), Refusals.INDEX, Givens.BUSY, (x, half) -> x.column(0, half));
        Refusals.refusesEach(Refusals.around(64), Refusals.INDEX, Givens.NOTHING, (x, half) -> x.column(2, half));
    }

    @Sentence(of = "Promise 10", says = "Returns a cell of a careful sketch.")
    static void cellsOfTheFirstAndTheLastStream() {
        Countcote x = Givens.with(5, 10);
        x.add(3, 5, 7);
        Check.answers("the first stream", 10, x.cell(0, 0, 0, 6));
        Check.answers("the last stream", 7, x.cell(3, 0, 0, 6));
        Check.answers("another stream", 0, x.cell(1, 0, 0, 6));
        Check.answers("another column", 0, x.cell(0, 0, 0, 5));
        Check.answers("the greatest cell", 1000000, full().cell(0, 0, 0, 4));
    }

    /** The item 63 is in the halves 63, 31 and 15. */
    @Sentence(of = "Promise 10", says = "- `level`: 0 to 2")
    static void cellsAtTheFirstAndTheLastLevel() {
        Countcote x = Givens.with(63, 9);
        Check.answers("the first level", 9, x.cell(0, 0, 2, 3));
        Check.answers("level 1", 9, x.cell(0, 1, 2, 7));
        Check.answers("the last level", 9, x.cell(0, 2, 1, 1));
        Check.answers("level 0 in the column of level 1", 0, x.cell(0, 0, 2, 7));
        Refusals.refuses("a level before", Refusals.INDEX, Givens.BUSY, y -> y.cell(0, -1, 0, 0));
        Refusals.refuses("a level behind", Refusals.INDEX, Givens.BUSY, y -> y.cell(0, 3, 0, 0));
    }

    @Sentence(of = "Promise 10", says = "- `row`: 0 to 2")
    static void cellsInTheFirstAndTheLastRow() {
        Countcote x = Givens.with(0, 9);
        Check.answers("the first row", 9, x.cell(0, 0, 0, 3));
        Check.answers("the last row", 9, x.cell(0, 0, 2, 5));
        Check.answers("the first row in the column of the last one", 0, x.cell(0, 0, 0, 5));
        Refusals.refuses("a row before", Refusals.INDEX, Givens.BUSY, y -> y.cell(0, 1, -1, 0));
        Refusals.refuses("a row behind", Refusals.INDEX, Givens.BUSY, y -> y.cell(0, 1, 3, 0));
    }

    /** In row 0 the items 3 and 4 have the columns 0 and 7. */
    @Sentence(of = "Promise 10", says = "- `column`: 0 to 7")
    static void firstAndLastColumn() {
        Countcote x = Givens.with(3, 9, 4, 8);
        Check.answers("the first column", 9, x.cell(0, 0, 0, 0));
        Check.answers("the last column", 8, x.cell(0, 0, 0, 7));
        Check.answers("the very last cell", 0, x.cell(3, 2, 2, 7));
        Refusals.refuses("a column before", Refusals.INDEX, Givens.BUSY, y -> y.cell(0, 1, 1, -1));
        Refusals.refuses("a column behind", Refusals.INDEX, Givens.BUSY, y -> y.cell(0, 1, 1, 8));
    }

    @Sentence(of = "Promise 10", says = NO_STREAM + ", level, row or column")
    static void noStreamLevelRowOrColumn() {
        Refusals.refusesEach(Refusals.NO_STREAMS, Refusals.INDEX, Givens.BUSY, (x, none) -> x.cell(none, 0, 0, 0));
        Refusals.refusesEach(Refusals.around(3), Refusals.INDEX, Givens.BUSY, (x, level) -> x.cell(0, level, 0, 0));
        Refusals.refusesEach(Refusals.around(3), Refusals.INDEX, Givens.BUSY, (x, row) -> x.cell(0, 0, row, 0));
        Refusals.refusesEach(Refusals.around(8), Refusals.INDEX, Givens.BUSY, (x, column) -> x.cell(0, 0, 0, column));
        Refusals.refusesEach(Refusals.around(8), Refusals.INDEX, Givens.BUSY, (x, column) -> x.cell(3, 2, 2, column));
    }

    @Sentence(of = "Promise 11", says = "Returns the estimate of a half.")
    static void estimatesOfNothingAndOfAll() {
        Countcote x = Givens.with(61, 5);
        Check.answers("an item that was never added, but shares all cells", 5, x.estimate(0, 0, 0));
        Check.answers("an item that shares none", 0, x.estimate(0, 0, 2));
        Check.answers("another stream", 0, x.estimate(3, 0, 61));
        for (int level = 0; level <= 6; level++) {
            Check.answers("a full stream at level " + level, 1000000, full().estimate(0, level, 7 >> level));
        }
        x.clear(0);
        Check.answers("an emptied stream", 0, x.estimate(0, 0, 61));
    }

    @Sentence(of = "Promise 11", says = "- `level`: 0 to 6")
    static void estimatesAtTheFirstAndTheLastLevel() {
        Countcote x = shared();
        int[] due = {1, 3, 16, 7, 15, 31, 127};
        for (int level = 0; level <= 6; level++) {
            Check.answers("the half 0 at level " + level, due[level], x.estimate(0, level, 0));
        }
        Refusals.refuses("a level before", Refusals.INDEX, Givens.BUSY, y -> y.estimate(0, -1, 0));
        Refusals.refuses("a level behind", Refusals.INDEX, Givens.BUSY, y -> y.estimate(0, 7, 0));
    }

    @Sentence(of = "Promise 11", says = NO_STREAM + ", level or half")
    static void estimateOfNoStreamLevelOrHalf() {
        Refusals.refusesEach(Refusals.NO_STREAMS, Refusals.INDEX, Givens.BUSY, (x, none) -> x.estimate(none, 0, 0));
        Refusals.refusesEach(Refusals.around(7), Refusals.INDEX, Givens.BUSY, (x, level) -> x.estimate(0, level, 0));
        Refusals.refusesEach(new int[] {32, 33, 64}, Refusals.INDEX, Givens.BUSY, (x, level) -> x.estimate(0, level, 0));
        for (int level = 0; level <= 6; level++) {
            int at = level;
            Refusals.refusesEach(Refusals.around(64 >> level), Refusals.INDEX, Givens.BUSY,
                    (x, half) -> x.estimate(0, at, half));
        }
    }

    @Sentence(of = "Promise 12", says = SHARE)
    static void shareOfNothingAndOfAll() {
        Check.answersDouble("a new stream", 0.0, new Countcote().share(3, 63));
        Check.answersDouble("the whole", 1.0, full().share(0, 7));
        Check.answersDouble("nothing of a full one", 0.0, full().share(0, 8));
        Countcote x = Givens.made(Givens.holding(999999));
        x.add(0, 12, 1);
        Check.answersDouble("the least share", 0.000001, x.share(0, 12));
        Check.answersDouble("the greatest one below the whole", 0.999999, x.share(0, 7));
        x.clear(0);
        Check.answersDouble("an emptied stream", 0.0, x.share(0, 7));
    }

    /** The item 0 shares all cells with the item 61; at level 1 and beyond it does not. */
    @Sentence(of = "Promise 12", says = SHARE)
    static void shareByTheEstimateAtLevel0() {
        Countcote x = Givens.with(61, 1, 62, 2);
        Check.answersDouble("by the estimate, not by the count", 1.0 / 3.0, x.share(0, 0));
        Check.answersDouble("not cut off to a whole number", 2.0 / 3.0, x.share(0, 62));
        Check.answersDouble("in another stream", 0.0, x.share(1, 61));
    }

    @Sentence(of = "Promise 12", says = NO_STREAM + " or item")
    static void shareOfNoStreamOrItem() {
        Refusals.refusesEach(Refusals.NO_STREAMS, Refusals.INDEX, Givens.BUSY, (x, none) -> x.share(none, 0));
        Refusals.refusesEach(Refusals.NO_ITEMS, Refusals.INDEX, Givens.BUSY, (x, item) -> x.share(0, item));
        Refusals.refusesEach(Refusals.NO_ITEMS, Refusals.INDEX, Givens.NOTHING, (x, item) -> x.share(0, item));
    }

    @Sentence(of = "Promise 13", says = PARTS)
    static void fewestAndMostParts() {
        Countcote x = new Countcote();
        checkParts(x, 1, 0, 0, 31, 31, 63, 63, 0, 63, 0, 31, 32, 63, 4, 7, 62, 63);
        checkParts(x, 2, 31, 32, 1, 2, 0, 32, 16, 63, 4, 8, 3, 7, 0, 2);
        checkParts(x, 3, 2, 8, 1, 4, 1, 5, 0, 6, 0, 13);
        checkParts(x, 4, 5, 13, 15, 48);
        checkParts(x, 6, 0, 62, 1, 63);
        checkParts(x, 10, 1, 62);
    }

    private static void checkParts(Countcote x, int due, int... fromsAndTos) {
        for (int i = 0; i < fromsAndTos.length; i += 2) {
            int from = fromsAndTos[i];
            int to = fromsAndTos[i + 1];
            Check.answers("parts from " + from + " to " + to, due, x.parts(from, to));
        }
    }

    @Sentence(of = "Promise 13", says = PARTS)
    static void halvesOfEachLevelAndOneItemMoreOrLess() {
        Countcote x = new Countcote();
        for (int level = 1; level <= 5; level++) {
            int size = 1 << level;
            Check.answers("the first half of level " + level, 1, x.parts(0, size - 1));
            Check.answers("the last half", 1, x.parts(64 - size, 63));
            Check.answers("one item more", 2, x.parts(0, size));
            Check.answers("one item more before it", 2, x.parts(63 - size, 63));
            Check.answers("one item less", level, x.parts(0, size - 2));
            Check.answers("one item less before it", level, x.parts(65 - size, 63));
        }
    }

    @Sentence(of = "Promise 13", says = NO_FROM_OR_TO)
    static void partsOfNoItem() {
        Refusals.refusesNoItemsInRange(Givens.BUSY, (x, from, to) -> x.parts(from, to));
    }

    @Sentence(of = "Promise 13", says = BACKWARDS)
    static void partsBackwards() {
        Refusals.refusesRangeBackwards(Givens.BUSY, (x, from, to) -> x.parts(from, to));
    }

    @Sentence(of = "Promise 14", says = "Returns the sum of the estimates of these halves.")
    static void estimatesOfTheVeryHalves() {
        Countcote x = shared();
        Check.answers("level 0, never added", 2, x.estimateOfRange(0, 62, 62));
        Check.answers("level 1", 3, x.estimateOfRange(0, 0, 1));
        Check.answers("level 2, too great", 16, x.estimateOfRange(0, 0, 3));
        Check.answers("level 3, no longer", 7, x.estimateOfRange(0, 0, 7));
        Check.answers("level 4", 15, x.estimateOfRange(0, 0, 15));
        Check.answers("level 5", 31, x.estimateOfRange(0, 0, 31));
        Check.answers("level 6", 127, x.estimateOfRange(0, 0, 63));
        Check.answers("ten halves", 2 + 4 + 8 + 16 + 32 + 2, x.estimateOfRange(0, 1, 62));
        Check.answers("two items", 9, x.estimateOfRange(0, 7, 8));
        Check.answers("the last item", 68, x.estimateOfRange(0, 63, 63));
        Check.answers("an empty stream", 0, x.estimateOfRange(3, 0, 63));
        Check.answers("a full stream", 1000000, full().estimateOfRange(0, 0, 63));
        Check.answers("the item of a full stream", 1000000, full().estimateOfRange(0, 7, 7));
    }

    @Sentence(of = "Promise 14", says = NO_STREAM_FROM_OR_TO)
    static void estimateOfRangeOfNoStreamOrItem() {
        Refusals.refusesEach(Refusals.NO_STREAMS, Refusals.INDEX, Givens.BUSY, (x, no) -> x.estimateOfRange(no, 0, 63));
        Refusals.refusesNoItemsInRange(Givens.BUSY, (x, from, to) -> x.estimateOfRange(0, from, to));
    }

    @Sentence(of = "Promise 14", says = BACKWARDS)
    static void estimateOfRangeBackwards() {
        Refusals.refusesRangeBackwards(Givens.BUSY, (x, from, to) -> x.estimateOfRange(0, from, to));
    }

    @Sentence(of = "Promise 15", says = FREQUENT)
    static void justAtLeastTheNumber() {
        Countcote x = Givens.with(3, 50, 17, 20, 60, 9);
        Check.answers("at least 9", 3, x.frequent(0, 9));
        Check.answers("at least 10", 2, x.frequent(0, 10));
        Check.answers("at least 20", 2, x.frequent(0, 20));
        Check.answers("at least 21", 1, x.frequent(0, 21));
        Check.answers("at least 50", 1, x.frequent(0, 50));
        Check.answers("at least 51", 0, x.frequent(0, 51));
        Check.answers("an empty stream", 0, x.frequent(1, 1));
        Check.answers("all items", 64, withAllItems().frequent(0, 1));
        Check.answers("not the first item and the last one", 2, Givens.with(0, 1, 63, 1).frequent(0, 1));
    }

    /** In each stream there is an item of which the estimate is too little at the one level alone. */
    @Sentence(of = "Promise 15", says = FREQUENT)
    static void oneLevelAloneIsTooLittle() {
        Check.answers("level 0 of the item 58", 1, Givens.with(59, 9).frequent(0, 5));
        Check.answers("level 1 of the item 60", 2, Givens.with(33, 7, 63, 6).frequent(0, 5));
        Check.answers("level 2 of the item 23", 2, Givens.with(17, 5, 37, 7).frequent(0, 5));
        Check.answers("level 3 of the item 28", 4, Givens.with(17, 9, 1, 8, 34, 5, 43, 9).frequent(0, 5));
    }

    @Sentence(of = "Promise 15", says = LEAST)
    static void leastAndGreatestNumber() {
        Check.answers("the least", 1, Givens.with(63, 1).frequent(0, 1));
        Check.answers("the greatest", 1, full().frequent(0, 1000000));
        Check.answers("the greatest, not reached", 0, Givens.made(Givens.holding(999999)).frequent(0, 1000000));
    }

    @Sentence(of = "Promise 15", says = NO_STREAM)
    static void frequentOfNoStream() {
        Refusals.refusesEach(Refusals.NO_STREAMS, Refusals.INDEX, Givens.BUSY, (x, stream) -> x.frequent(stream, 1));
    }

    @Sentence(of = "Promise 15", says = LEAST_OUT)
    static void frequentOfNoNumber() {
        Refusals.refusesEach(Refusals.NO_LEAST, Refusals.ARGUMENT, Givens.BUSY, (x, least) -> x.frequent(0, least));
        Refusals.refusesEach(Refusals.NO_LEAST, Refusals.ARGUMENT, Givens.NOTHING, (x, least) -> x.frequent(3, least));
    }

    @Sentence(of = "Promise 16", says = "Returns a frequent item.")
    static void onlyFrequentItems() {
        Countcote x = Givens.with(3, 50, 17, 20, 60, 9);
        Check.answers("just at least the number", 3, x.frequentAt(0, 50, 0));
        Check.answers("the first item", 0, Givens.with(0, 1).frequentAt(0, 1, 0));
        Check.answers("the last item", 63, Givens.with(63, 1).frequentAt(0, 1, 0));
        Check.answers("not the item 58", 59, Givens.with(59, 9).frequentAt(0, 5, 0));
        Check.answers("not the item 60", 63, Givens.with(33, 7, 63, 6).frequentAt(0, 5, 1));
        Check.answers("not the item 23", 37, Givens.with(17, 5, 37, 7).frequentAt(0, 5, 1));
        Check.answers("not the item 28", 34, Givens.with(17, 9, 1, 8, 34, 5, 43, 9).frequentAt(0, 5, 2));
    }

    @Sentence(of = "Promise 16", says = LEAST)
    static void frequentAtTheLeastAndTheGreatestNumber() {
        Check.answers("the least", 63, Givens.with(63, 1).frequentAt(0, 1, 0));
        Check.answers("the greatest", 7, full().frequentAt(0, 1000000, 0));
    }

    @Sentence(of = "Promise 16", says = "- `place`: from 0, in ascending order of the items")
    static void firstAndLastPlace() {
        Countcote x = Givens.with(60, 50, 3, 9, 17, 20);
        Check.answers("the first place", 3, x.frequentAt(0, 9, 0));
        Check.answers("the second place", 17, x.frequentAt(0, 9, 1));
        Check.answers("the last place", 60, x.frequentAt(0, 9, 2));
        Check.answers("the first place with a greater number", 17, x.frequentAt(0, 10, 0));
        Countcote all = withAllItems();
        for (int item = 0; item < 64; item++) {
            Check.answers("all items, place " + item, item, all.frequentAt(0, 1, item));
        }
    }

    @Sentence(of = "Promise 16", says = NO_STREAM)
    static void frequentAtOfNoStream() {
        Refusals.refusesEach(Refusals.NO_STREAMS, Refusals.INDEX, Givens.BUSY, (x, none) -> x.frequentAt(none, 1, 0));
    }

    @Sentence(of = "Promise 16", says = LEAST_OUT)
    static void frequentAtOfNoNumber() {
        Refusals.refusesEach(Refusals.NO_LEAST, Refusals.ARGUMENT, Givens.BUSY, (x, least) -> x.frequentAt(0, least, 0));
    }

    @Sentence(of = "Promise 16", says = "Throws `java` .util.NoSuchElementException if there is no such place")
    static void noSuchPlace() {
        Givens.Given three = x -> Givens.addAll(x, 0, 60, 50, 3, 9, 17, 20);
        Refusals.refusesEach(Refusals.around(3), Refusals.ELEMENT, three, (x, place) -> x.frequentAt(0, 9, place));
        Refusals.refusesEach(Refusals.around(2), Refusals.ELEMENT, three, (x, place) -> x.frequentAt(0, 10, place));
        Refusals.refuses("none is frequent", Refusals.ELEMENT, three, x -> x.frequentAt(0, 51, 0));
        Refusals.refuses("an empty stream", Refusals.ELEMENT, three, x -> x.frequentAt(1, 1, 0));
        Givens.Given all = x -> {
            for (int item = 0; item < 64; item++) {
                x.add(0, item, 1);
            }
        };
        Refusals.refusesEach(Refusals.around(64), Refusals.ELEMENT, all, (x, place) -> x.frequentAt(0, 1, place));
    }

    @Sentence(of = "Promise 17", says = RANK)
    static void rankJustAtAnEstimateAndOneMore() {
        checkRanks(Givens.with(10, 3, 20, 4, 50, 5), 10, 10, 10, 20, 20, 20, 20, 50, 50, 50, 50, 50);
        checkRanks(Givens.with(31, 3, 32, 4), 31, 31, 31, 32, 32, 32, 32);
        checkRanks(Givens.with(0, 1, 63, 1), 0, 63);
        checkRanks(Givens.with(63, 2), 63, 63);
        checkRanks(Givens.with(0, 2), 0, 0);
    }

    /** The items 0 and 1 share all cells with the items 61 and 62. */
    @Sentence(of = "Promise 17", says = RANK)
    static void rankWithEstimatesThatAreTooGreat() {
        checkRanks(Givens.with(61, 5, 1, 9), 0, 0, 0, 0, 0, 1, 1, 1, 1, 61, 61, 61, 61, 61);
        Countcote all = withAllItems();
        Check.answers("the last rank finds not the last item", 58, all.itemOfRank(0, 64));
        Check.answers("the first item has more than its rank", 0, all.itemOfRank(0, 4));
        Check.answers("the second item", 1, all.itemOfRank(0, 5));
    }

    private static void checkRanks(Countcote x, int... due) {
        for (int rank = 1; rank <= due.length; rank++) {
            Check.answers("rank " + rank + " of " + due.length, due[rank - 1], x.itemOfRank(0, rank));
        }
    }

    @Sentence(of = "Promise 17", says = "- `rank`: 1 to the total of the stream")
    static void firstAndLastRank() {
        Countcote x = full();
        Check.answers("the first rank", 7, x.itemOfRank(0, 1));
        Check.answers("the last rank", 7, x.itemOfRank(0, 1000000));
        x.add(3, 9, 1);
        Check.answers("one rank alone", 9, x.itemOfRank(3, 1));
        Givens.Given emptied = y -> {
            y.add(0, 9, 500);
            y.clear(0);
        };
        Refusals.refuses("a rank of before", Refusals.ARGUMENT, emptied, y -> y.itemOfRank(0, 1));
        Givens.Given usedAgain = y -> {
            emptied.on(y);
            y.add(0, 8, 2);
        };
        Check.answers("the last rank then", 8, Givens.made(usedAgain).itemOfRank(0, 2));
        Refusals.refuses("one of before again", Refusals.ARGUMENT, usedAgain, y -> y.itemOfRank(0, 3));
    }

    @Sentence(of = "Promise 17", says = NO_STREAM)
    static void rankInNoStream() {
        Refusals.refusesEach(Refusals.NO_STREAMS, Refusals.INDEX, Givens.BUSY, (x, stream) -> x.itemOfRank(stream, 1));
    }

    @Sentence(of = "Promise 17", says = "Throws `IllegalArgumentException` if rank is out of range")
    static void rankOutOfRange() {
        int[] ranks = {0, -1, 116, Integer.MIN_VALUE, Integer.MAX_VALUE};
        Refusals.refusesEach(ranks, Refusals.ARGUMENT, Givens.BUSY, (x, rank) -> x.itemOfRank(0, rank));
        Refusals.refusesEach(ranks, Refusals.ARGUMENT, Givens.NOTHING, (x, rank) -> x.itemOfRank(0, rank));
        Refusals.refuses("an empty stream", Refusals.ARGUMENT, Givens.NOTHING, x -> x.itemOfRank(0, 1));
        Refusals.refuses("a full stream", Refusals.ARGUMENT, Givens.holding(1000000), x -> x.itemOfRank(0, 1000001));
    }
}
