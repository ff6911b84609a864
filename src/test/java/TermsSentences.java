/** The sentences of "Terms" that name a boundary case, but for those about counters and merging. */
final class TermsSentences {
    private static final String COLUMN = "The column of a half h in the row r is (A * h + B) % 61 % 8, "
            + "where A is 7, 11 and 23, and B is 3, 19 and 5, in the rows 0, 1 and 2.";
    private static final String WHEN_ADDED = "When an item is added with a weight, then, at each of these levels, "
            + "each of the three cells of its half becomes the estimate of the half before this and the weight, "
            + "together, unless it is greater already.";
    private static final String SIGNED_COLUMN = "The column of an item i in the row r is (C * i + D) % 67 % 8, "
            + "where C is 5, 9, 14, 27 and 33, and D is 1, 8, 2, 40 and 17, in the rows 0 to 4; its sign there is 1 "
            + "if (E * i + F) % 71 is even, and -1 otherwise, where E is 3, 10, 21, 29 and 44, "
            + "and F is 7, 0, 13, 5 and 30.";
    private static final String LEAST_CELL = "The estimate of a half is the least one of its three cells.";
    private static final String ONE_COUNT = "At the levels 3 to 6 there is one count for each half, "
            + "which is the sum of the plain counts of its items; that is the estimate.";
    private static final String SIGNED_ESTIMATE = "The signed estimate of an item is the middle one of the five "
            + "products of its sign and its cell, put in order.";
    private static final String SIGNED_PRODUCT = "The signed product of two streams is the middle one of five "
            + "numbers, put in order: for each row the sum over its 8 columns of the product of the cells of both "
            + "streams.";
    private static final String TOTAL = "The total of a stream is the sum of all plain counts; it is at most 1000000.";
    private static final String FIRST_NAMED = "If several exceptions apply to a call, the one that its throws "
            + "clause names first is thrown; a call that throws changes nothing.";

    private TermsSentences() {
    }

    @Sentence(of = "What it is", says = "An object is used for at most 512 calls after it has been made; "
            + "what later calls answer is free.")
    static void theLastCallIsAnsweredToo() {
        Countcote adding = new Countcote();
        for (int call = 1; call <= 512; call++) {
            Check.answers("call " + call, 1000 * call, adding.add(1, call % 64, 1000));
        }
        Countcote merging = Givens.with(3, 1);
        for (int call = 2; call <= 512; call++) {
            Check.answers("call " + call, call - 1, merging.merge(1, 0));
        }
        Countcote refusing = new Countcote();
        for (int call = 1; call <= 511; call++) {
            Check.refuses("call " + call, Refusals.INDEX, () -> refusing.total(4));
        }
        Check.answers("call 512 behind 511 refused ones", 5, refusing.add(0, 0, 5));
    }

    @Sentence(of = "Terms", says = "There are the streams 0 to 3 and the items 0 to 63.")
    static void firstAndLastStreamAndItem() {
        Countcote x = new Countcote();
        Check.answers("the first ones", 1, x.add(0, 0, 1));
        Check.answers("the last ones", 2, x.add(3, 63, 2));
        Check.answers("the first stream", 1, x.count(0, 0));
        Check.answers("the last stream", 2, x.count(3, 63));
        Check.answers("the last item of the first stream", 0, x.count(0, 63));
        Check.answers("the first item of the last stream", 0, x.count(3, 0));
        Check.answers("the second stream", 0, x.total(1));
        Check.answers("the third stream", 0, x.total(2));
        Refusals.refusesEach(Refusals.NO_STREAMS, Refusals.INDEX, Givens.BUSY, (y, stream) -> y.add(stream, 0, 1));
        Refusals.refusesEach(Refusals.NO_ITEMS, Refusals.INDEX, Givens.BUSY, (y, item) -> y.add(0, item, 1));
    }

    @Sentence(of = "Terms", says = "The plain count of an item in a stream is the sum of the weights "
            + "with which it was added.")
    static void plainCountOfNoneAndOfAll() {
        Countcote x = Givens.with(9, 1, 10, 1000, 9, 1000);
        Check.answers("never added", 0, x.count(0, 8));
        Check.answers("added once", 1000, x.count(0, 10));
        Check.answers("added twice", 1001, x.count(0, 9));
        Check.answers("all that a stream can hold", 1000000, Givens.made(Givens.holding(1000000)).count(0, 7));
    }

    @Sentence(of = "Terms", says = TOTAL)
    static void greatestTotal() {
        Countcote x = Givens.made(Givens.holding(999999));
        Check.answers("an empty stream", 0, x.total(1));
        Check.answers("one below the greatest", 999999, x.total(0));
        Check.answers("the greatest", 1000000, x.add(0, 63, 1));
        Check.answers("the greatest again", 1000000, x.total(0));
        Check.answers("the plain counts", 1000000, x.countOfRange(0, 0, 63));
        Refusals.refuses("one more", Refusals.STATE, Givens.holding(1000000), y -> y.add(0, 63, 1));
    }

    @Sentence(of = "Terms", says = "At a level, 0 to 6, each item belongs to a half: "
            + "the one with the number item >> level.")
    static void firstAndLastItemOfAHalf() {
        for (int level = 0; level <= 6; level++) {
            int size = 1 << level;
            int last = 63 >> level;
            int first = Givens.with(last * size, 5).estimate(0, level, last);
            Check.answers("the first item of the last half at level " + level, 5, first);
            Check.answers("the last item there", 5, Givens.with(63, 5).estimate(0, level, last));
            Check.answers("the first item of the first half", 5, Givens.with(0, 5).estimate(0, level, 0));
            Check.answers("the last item there", 5, Givens.with(size - 1, 5).estimate(0, level, 0));
            if (level < 6) {
                Check.answers("the item behind it", 0, Givens.with(size, 5).estimate(0, level, 0));
                Check.answers("it is in the next half", 5, Givens.with(size, 5).estimate(0, level, 1));
            }
        }
    }

    @Sentence(of = "Terms", says = "So there are 64 >> level halves at a level, numbered from 0; "
            + "at level 0 each item is a half of its own.")
    static void firstAndLastHalfOfALevel() {
        Countcote x = Givens.with(0, 5, 20, 7, 63, 9);
        for (int level = 0; level <= 5; level++) {
            int at = level;
            int halves = 64 >> level;
            Check.answers("the last half at level " + level, 9, x.estimate(0, level, halves - 1));
            Refusals.refusesEach(Refusals.around(halves), Refusals.INDEX, Givens.BUSY,
                    (y, half) -> y.estimate(0, at, half));
        }
        Check.answers("the one half at level 6", 21, x.estimate(0, 6, 0));
        Refusals.refusesEach(Refusals.around(1), Refusals.INDEX, Givens.BUSY, (y, half) -> y.estimate(0, 6, half));
        Check.answers("an item beside the others", 7, x.estimate(0, 0, 20));
        Check.answers("the item before it", 0, x.estimate(0, 0, 19));
        Check.answers("the item behind it", 0, x.estimate(0, 0, 21));
    }

    @Sentence(of = "Terms", says = "At the levels 0, 1 and 2 a stream has three rows of 8 cells each, all 0 at first.")
    static void cellsAtFirst() {
        Countcote x = new Countcote();
        for (int stream = 0; stream < 4; stream++) {
            for (int cell = 0; cell < 72; cell++) {
                Check.answers("cell " + cell, 0, x.cell(stream, cell / 24, cell / 8 % 3, cell % 8));
            }
        }
        Refusals.refuses("a fourth level", Refusals.INDEX, Givens.BUSY, y -> y.cell(0, 3, 0, 0));
        Refusals.refuses("a fourth row", Refusals.INDEX, Givens.BUSY, y -> y.cell(0, 0, 3, 0));
        Refusals.refuses("a ninth cell", Refusals.INDEX, Givens.BUSY, y -> y.cell(0, 0, 0, 8));
    }

    /** Each half with A * h + B just below, at or behind a multiple of 61, and 7 and 8 beyond it. */
    @Sentence(of = "Terms", says = COLUMN)
    static void columnsBeginAnewAt61AndAt8() {
        checkColumns(0, 43, 4, 17, 0, 18, 7, 53, 0, 8, 3, 9, 5, 61, 3);
        checkColumns(1, 37, 4, 26, 0, 10, 7, 60, 0, 48, 3, 4, 2, 61, 3);
        checkColumns(2, 13, 4, 21, 0, 16, 7, 24, 0, 5, 3, 3, 5, 61, 5);
    }

    private static void checkColumns(int row, int... halvesAndColumns) {
        for (int i = 0; i < halvesAndColumns.length; i += 2) {
            int half = halvesAndColumns[i];
            int column = halvesAndColumns[i + 1];
            Countcote x = Givens.with(half, 6);
            Check.answers("the column of " + half + " in row " + row, column, x.column(row, half));
            for (int other = 0; other < 8; other++) {
                Check.answers("cell " + other + " of row " + row, other == column ? 6 : 0, x.cell(0, 0, row, other));
            }
        }
    }

    @Sentence(of = "Terms", says = LEAST_CELL)
    static void theLeastCellIsInAnyRow() {
        Check.answers("in row 0", 4, Givens.with(5, 4, 12, 20, 2, 30).estimate(0, 0, 5));
        Check.answers("in row 1", 4, Givens.with(5, 4, 16, 20, 2, 30).estimate(0, 0, 5));
        Check.answers("in row 2", 4, Givens.with(5, 4, 19, 20).estimate(0, 0, 5));
        Check.answers("three equal ones", 4, Givens.with(5, 4).estimate(0, 0, 5));
        Check.answers("two equal ones above it", 0, Givens.with(19, 20).estimate(0, 0, 5));
        Check.answers("the columns of another one", 9, Givens.with(61, 9).estimate(0, 0, 0));
        Check.answers("at level 1 too", 4, Givens.with(10, 4, 39, 20).estimate(0, 1, 5));
        Check.answers("at level 2 too", 4, Givens.with(20, 4, 51, 20).estimate(0, 2, 5));
    }

    @Sentence(of = "Terms", says = WHEN_ADDED)
    static void theEstimateBeforeIsThatOfAllRows() {
        checkCells("the least cell in row 0", Givens.with(5, 4, 12, 10, 2, 10, 5, 7), 11, 11, 11);
        checkCells("in row 1", Givens.with(5, 4, 16, 10, 2, 10, 5, 7), 11, 11, 11);
        checkCells("in row 2", Givens.with(5, 4, 19, 10, 5, 7), 11, 11, 11);
    }

    @Sentence(of = "Terms", says = WHEN_ADDED)
    static void greaterCellsStay() {
        checkCells("one greater in the rows 1 and 2", Givens.with(5, 4, 12, 12, 2, 12, 5, 7), 11, 12, 12);
        checkCells("as great already", Givens.with(5, 4, 12, 11, 2, 11, 5, 7), 11, 11, 11);
        checkCells("greater in row 0 and row 1", Givens.with(5, 4, 19, 1000, 5, 7), 1000, 1000, 11);
        checkCells("greater in row 0", Givens.with(5, 4, 16, 20, 5, 1), 20, 5, 5);
    }

    private static void checkCells(String what, Countcote x, int... due) {
        for (int row = 0; row < 3; row++) {
            Check.answers(what + ": row " + row, due[row], x.cell(0, 0, row, x.column(row, 5)));
        }
    }

    @Sentence(of = "Terms", says = WHEN_ADDED)
    static void levelsHaveHalvesOfTheirOwn() {
        Countcote x = Givens.with(5, 10, 4, 3, 6, 1);
        int[] due = {10, 13, 14};
        for (int level = 0; level < 3; level++) {
            for (int row = 0; row < 3; row++) {
                int cell = x.cell(0, level, row, x.column(row, 5 >> level));
                Check.answers("level " + level + ", row " + row, due[level], cell);
            }
        }
        Check.answers("the greatest cell", 1000000, Givens.made(Givens.holding(1000000)).cell(0, 2, 0, 2));
    }

    /** At level 2 the half 6 has the columns of other ones in each row; at level 3 nothing is shared. */
    @Sentence(of = "Terms", says = ONE_COUNT)
    static void fromLevel3OnNothingIsTooGreat() {
        Countcote x = Givens.with(0, 1, 1, 2, 2, 4, 8, 8, 31, 16, 32, 32, 63, 64);
        Check.answers("too great at level 2", 16, x.estimate(0, 2, 0));
        int[][] due = {{7, 8, 0, 16, 32, 0, 0, 64}, {15, 16, 32, 64}, {31, 96}, {127}};
        for (int level = 3; level <= 6; level++) {
            for (int half = 0; half < 64 >> level; half++) {
                Check.answers("half " + half + " at level " + level, due[level - 3][half], x.estimate(0, level, half));
            }
        }
        Check.answers("an empty stream", 0, x.estimate(1, 6, 0));
        Check.answers("the greatest count", 1000000, Givens.made(Givens.holding(1000000)).estimate(0, 3, 0));
    }

    @Sentence(of = "Terms", says = "A stream has five rows of 8 cells, all 0 at first.")
    static void signedCellsAtFirst() {
        Countcote x = new Countcote();
        for (int stream = 0; stream < 4; stream++) {
            for (int cell = 0; cell < 40; cell++) {
                Check.answers("cell " + cell, 0, x.signedCell(stream, cell / 8, cell % 8));
            }
        }
        Refusals.refuses("a sixth row", Refusals.INDEX, Givens.BUSY, y -> y.signedCell(0, 5, 0));
        Refusals.refuses("a ninth cell", Refusals.INDEX, Givens.BUSY, y -> y.signedCell(0, 0, 8));
    }

    /** Each item with C * i + D just below or at a multiple of 67, and 7 and 8 beyond it. */
    @Sentence(of = "Terms", says = SIGNED_COLUMN)
    static void signedColumnsBeginAnewAt67AndAt8() {
        checkSignedColumns(0, 13, 2, 40, 0, 28, 7, 55, 0);
        checkSignedColumns(1, 51, 1, 14, 0, 52, 7, 0, 0);
        checkSignedColumns(2, 62, 2, 19, 0, 53, 7, 10, 0);
        checkSignedColumns(3, 63, 2, 1, 0, 36, 7, 41, 0);
        checkSignedColumns(4, 36, 2, 34, 0, 20, 7, 18, 0);
    }

    private static void checkSignedColumns(int row, int... itemsAndColumns) {
        for (int i = 0; i < itemsAndColumns.length; i += 2) {
            int item = itemsAndColumns[i];
            int column = itemsAndColumns[i + 1];
            Countcote x = Givens.with(item, 6);
            Check.answers("the column of " + item + " in row " + row, column, x.signedColumn(row, item));
            for (int other = 0; other < 8; other++) {
                int due = other == column ? 6 * x.sign(row, item) : 0;
                Check.answers("cell " + other + " of row " + row, due, x.signedCell(0, row, other));
            }
        }
    }

    /** Items with E * i + F at a multiple of 71, or 70, 1 or 69 beyond one: 0 and 70 are even. */
    @Sentence(of = "Terms", says = SIGNED_COLUMN)
    static void signsBeginAnewAt71() {
        checkSigns(0, 45, 1, 21, 1, 22, 1, 20, -1);
        checkSigns(1, 0, 1, 7, 1, 8, -1, 14, -1);
        checkSigns(2, 23, 1, 50, -1, 40, -1);
        checkSigns(3, 39, 1, 61, 1, 17, -1, 12, -1);
        checkSigns(4, 9, 1, 59, 1, 30, -1, 38, -1);
    }

    private static void checkSigns(int row, int... itemsAndSigns) {
        for (int i = 0; i < itemsAndSigns.length; i += 2) {
            int item = itemsAndSigns[i];
            Countcote x = Givens.with(item, 6);
            Check.answers("the sign of " + item + " in row " + row, itemsAndSigns[i + 1], x.sign(row, item));
            Check.answers("its cell in row " + row, 6 * itemsAndSigns[i + 1],
                    x.signedCell(0, row, x.signedColumn(row, item)));
        }
    }

    @Sentence(of = "Terms", says = "When an item is added with a weight, its sign times the weight is added "
            + "to its cell in each row.")
    static void signedCellsBelow0AndBackAt0() {
        // In row 0 the items 0 and 15 share the column 1, with the signs -1 and 1.
        Countcote x = Givens.with(0, 1000);
        Check.answers("below 0", -1000, x.signedCell(0, 0, 1));
        x.add(0, 15, 999);
        Check.answers("one below 0", -1, x.signedCell(0, 0, 1));
        x.add(0, 15, 1);
        Check.answers("0 again", 0, x.signedCell(0, 0, 1));
        x.add(0, 15, 1);
        Check.answers("one above 0", 1, x.signedCell(0, 0, 1));
        Countcote full = Givens.made(Givens.holding(1000000));
        Check.answers("the greatest cell", 1000000, full.signedCell(0, 0, 4));
        full.clear(0);
        Givens.hold(full, 0, 0, 1000000);
        Check.answers("the least cell", -1000000, full.signedCell(0, 0, 1));
    }

    @Sentence(of = "Terms", says = SIGNED_ESTIMATE)
    static void theMiddleProductIsInAnyRow() {
        Check.answers("0, 2, -20, -2, 20", 0, Givens.with(47, 2, 48, 20).signedEstimate(0, 61));
        Check.answers("0, 2, 5, 7, -10", 2, Givens.with(62, 5, 25, 10, 8, 2).signedEstimate(0, 22));
        Check.answers("-5, 10, -1, -10, 0", -1, Givens.with(23, 5, 14, 10, 26, 1).signedEstimate(0, 53));
        Check.answers("-8, 0, 10, -3, -10", -3, Givens.with(9, 2, 46, 10, 23, 3).signedEstimate(0, 24));
        Check.answers("-42, -40, 12, 60, 10", 10, Givens.with(53, 10, 0, 50, 8, 2).signedEstimate(0, 53));
    }

    @Sentence(of = "Terms", says = SIGNED_ESTIMATE)
    static void equalProducts() {
        Check.answers("3, 3, 2, 4, 3", 3, Givens.with(49, 3, 22, 1).signedEstimate(0, 49));
        Check.answers("-97, 3, 6, 6, 103", 6, Givens.with(40, 3, 18, 100, 0, 3).signedEstimate(0, 40));
        Check.answers("-2, 1, -2, -19, 1", -2, Givens.with(57, 1, 35, 3, 31, 20).signedEstimate(0, 57));
        Check.answers("five equal ones", 1000000, Givens.made(Givens.holding(1000000)).signedEstimate(0, 7));
        Check.answers("an empty stream", 0, new Countcote().signedEstimate(3, 63));
    }

    @Sentence(of = "Terms", says = SIGNED_PRODUCT)
    static void theMiddleNumberIsInAnyRow() {
        Check.answers("-2, 0, -3, 5, -5", -2, ofTwo(Givens.with(49, 5, 31, 2), 1, 1, 22, 1));
        Check.answers("0, 2, -3, 7, 3", 2, ofTwo(Givens.with(57, 1, 58, 2), 44, 3, 32, 2));
        Check.answers("0, -10, -5, 6, -6", -5, ofTwo(Givens.with(17, 2, 46, 1), 28, 5, 30, 3));
        Check.answers("0, -24, 24, 3, 21", 3, ofTwo(Givens.with(12, 7, 55, 1), 30, 3, 15, 3));
        Check.answers("-6, -2, -10, 0, -5", -5, ofTwo(Givens.with(41, 5, 34, 2), 9, 1, 19, 2));
    }

    private static long ofTwo(Countcote x, int... itemsAndWeights) {
        Givens.addAll(x, 1, itemsAndWeights);
        return x.signedProduct(0, 1);
    }

    @Sentence(of = "Terms", says = SIGNED_PRODUCT)
    static void signedProductsBeyondAnInt() {
        Countcote x = Givens.with(41, 5, 34, 2);
        Givens.addAll(x, 1, 9, 1, 19, 2);
        for (int time = 0; time < 5; time++) {
            Givens.tenfold(x, 0, 2);
            Givens.tenfold(x, 1, 2);
        }
        Check.answers("far below 0", -50000000000L, x.signedProduct(0, 1));
        Countcote full = Givens.made(Givens.holding(1000000));
        Check.answers("as great as can be", 1000000000000L, full.signedProduct(0, 0));
        Check.answers("with an empty stream", 0, full.signedProduct(0, 1));
    }

    /** In each call all that can be wrong is wrong; then all but what the first named exception is for. */
    @Sentence(of = "Terms", says = FIRST_NAMED)
    static void addNamesNoStreamOrItemFirst() {
        Givens.Given full = Givens.holdingBesideOthers(1000000);
        Refusals.refusesEach(Refusals.NO_STREAMS, Refusals.INDEX, full, (x, stream) -> x.add(stream, 64, 1001));
        Refusals.refusesEach(Refusals.NO_STREAMS, Refusals.INDEX, full, (x, stream) -> x.add(stream, 7, 0));
        Refusals.refusesEach(Refusals.NO_ITEMS, Refusals.INDEX, full, (x, item) -> x.add(0, item, 1001));
        Refusals.refusesEach(Refusals.NO_ITEMS, Refusals.INDEX, full, (x, item) -> x.add(0, item, 1));
        Refusals.refusesEach(new int[] {1001, 0, Integer.MIN_VALUE, Integer.MAX_VALUE}, Refusals.ARGUMENT, full,
                (x, weight) -> x.add(0, 7, weight));
        Refusals.refuses("the total alone", Refusals.STATE, full, x -> x.add(0, 7, 1));
    }

    @Sentence(of = "Terms", says = FIRST_NAMED)
    static void mergeNamesNoStreamFirst() {
        Givens.Given full = Givens.holdingBesideOthers(1000000);
        Refusals.refusesEach(Refusals.NO_STREAMS, Refusals.INDEX, full, (x, stream) -> x.merge(stream, stream));
        Refusals.refusesEach(Refusals.NO_STREAMS, Refusals.INDEX, full, (x, other) -> x.merge(0, other));
        Refusals.refusesEach(Refusals.NO_STREAMS, Refusals.INDEX, full, (x, stream) -> x.merge(stream, 0));
        Refusals.refuses("a full one with itself", Refusals.ARGUMENT, full, x -> x.merge(0, 0));
        Refusals.refuses("the total alone", Refusals.STATE, full, x -> x.merge(0, 1));
    }

    @Sentence(of = "Terms", says = FIRST_NAMED)
    static void rangesNameNoStreamOrItemFirst() {
        Givens.Given busy = Givens.BUSY;
        Refusals.refusesEach(Refusals.NO_STREAMS, Refusals.INDEX, busy, (x, none) -> x.countOfRange(none, 5, 4));
        Refusals.refusesEach(Refusals.NO_STREAMS, Refusals.INDEX, busy, (x, none) -> x.estimateOfRange(none, 5, 4));
        for (int from : new int[] {64, 65, Integer.MAX_VALUE}) {
            Refusals.refuses("counts from " + from, Refusals.INDEX, busy, x -> x.countOfRange(0, from, 4));
            Refusals.refuses("estimates from " + from, Refusals.INDEX, busy, x -> x.estimateOfRange(0, from, 4));
            Refusals.refuses("parts from " + from, Refusals.INDEX, busy, x -> x.parts(from, 4));
        }
        for (int to : new int[] {-1, -64, Integer.MIN_VALUE}) {
            Refusals.refuses("counts to " + to, Refusals.INDEX, busy, x -> x.countOfRange(0, 5, to));
            Refusals.refuses("estimates to " + to, Refusals.INDEX, busy, x -> x.estimateOfRange(0, 5, to));
            Refusals.refuses("parts to " + to, Refusals.INDEX, busy, x -> x.parts(5, to));
        }
    }

    @Sentence(of = "Terms", says = FIRST_NAMED)
    static void frequentOnesNameNoStreamThenNoNumberFirst() {
        Givens.Given busy = Givens.BUSY;
        Refusals.refusesEach(Refusals.NO_STREAMS, Refusals.INDEX, busy, (x, stream) -> x.frequent(stream, 0));
        Refusals.refusesEach(Refusals.NO_STREAMS, Refusals.INDEX, busy, (x, stream) -> x.frequentAt(stream, 0, -1));
        Refusals.refusesEach(Refusals.NO_STREAMS, Refusals.INDEX, busy, (x, stream) -> x.frequentAt(stream, 1, 64));
        Refusals.refusesEach(Refusals.NO_LEAST, Refusals.ARGUMENT, busy, (x, least) -> x.frequentAt(0, least, -1));
        Refusals.refusesEach(Refusals.NO_LEAST, Refusals.ARGUMENT, busy, (x, least) -> x.frequentAt(0, least, 64));
        Refusals.refuses("the place alone", Refusals.ELEMENT, busy, x -> x.frequentAt(0, 1, 64));
    }

    @Sentence(of = "Terms", says = FIRST_NAMED)
    static void ranksNameNoStreamFirst() {
        Refusals.refusesEach(Refusals.NO_STREAMS, Refusals.INDEX, Givens.BUSY, (x, none) -> x.itemOfRank(none, 0));
        Refusals.refusesEach(Refusals.NO_STREAMS, Refusals.INDEX, Givens.NOTHING, (x, none) -> x.itemOfRank(none, 1));
        Refusals.refuses("the rank alone", Refusals.ARGUMENT, Givens.BUSY, x -> x.itemOfRank(0, 0));
    }

    @Sentence(of = "Terms", says = "The constants: `NONE = -1`: There is none.")
    static void none() throws ReflectiveOperationException {
        // The compiler writes the number itself into a test that names the constant.
        Check.answers("NONE", -1, Countcote.class.getField("NONE").getInt(null));
    }
}
