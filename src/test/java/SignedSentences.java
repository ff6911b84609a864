/** The sentences of the promises 18 to 22 that name a boundary case: signed sketches. */
final class SignedSentences {
    private static final String NO_ROW_OR_ITEM = "Throws `IndexOutOfBoundsException` if there is no such row or item";

    private SignedSentences() {
    }

    @Sentence(of = "Promise 18", says = "Returns the column of an item in a row of the signed sketches.")
    static void columnsOfTheFirstAndTheLastItem() {
        Countcote x = new Countcote();
        int[] first = {1, 0, 2, 0, 1};
        int[] last = {0, 7, 5, 2, 3};
        for (int row = 0; row < 5; row++) {
            Check.answers("the first item in row " + row, first[row], x.signedColumn(row, 0));
            Check.answers("the last item in row " + row, last[row], x.signedColumn(row, 63));
        }
    }

    @Sentence(of = "Promise 18", says = "- `row`: 0 to 4")
    static void columnsInTheFirstAndTheLastRow() {
        Countcote x = Givens.made(Givens.BUSY);
        Check.answers("the first row", 0, x.signedColumn(0, 48));
        Check.answers("the last row", 4, x.signedColumn(4, 48));
    }

    @Sentence(of = "Promise 18", says = NO_ROW_OR_ITEM)
    static void columnOfNoRowOrItem() {
        Refusals.refusesEach(Refusals.around(5), Refusals.INDEX, Givens.BUSY, (x, row) -> x.signedColumn(row, 0));
        Refusals.refusesEach(Refusals.NO_ITEMS, Refusals.INDEX, Givens.BUSY, (x, item) -> x.signedColumn(0, item));
    }

    @Sentence(of = "Promise 19", says = "Returns the sign of an item in a row of the signed sketches.")
    static void signsOfTheFirstAndTheLastItem() {
        Countcote x = new Countcote();
        int[] first = {-1, 1, -1, -1, 1};
        int[] last = {1, 1, 1, -1, -1};
        for (int row = 0; row < 5; row++) {
            Check.answers("the first item in row " + row, first[row], x.sign(row, 0));
            Check.answers("the last item in row " + row, last[row], x.sign(row, 63));
        }
    }

    @Sentence(of = "Promise 19", says = "- `row`: 0 to 4")
    static void signsInTheFirstAndTheLastRow() {
        Countcote x = Givens.made(Givens.BUSY);
        Check.answers("the first row", -1, x.sign(0, 48));
        Check.answers("the last row", 1, x.sign(4, 48));
    }

    @Sentence(of = "Promise 19", says = "Returns 1 or -1.")
    static void noOtherSigns() {
        Countcote x = new Countcote();
        for (int row = 0; row < 5; row++) {
            int sum = 0;
            for (int item = 0; item < 64; item++) {
                int sign = x.sign(row, item);
                Check.answers("the sign of " + item + " in row " + row + ", without it", 1, sign * sign);
                sum += sign;
            }
            int[] due = {2, 8, 0, 0, 2};
            Check.answers("the sum of the signs in row " + row, due[row], sum);
        }
    }

    @Sentence(of = "Promise 19", says = NO_ROW_OR_ITEM)
    static void signOfNoRowOrItem() {
        Refusals.refusesEach(Refusals.around(5), Refusals.INDEX, Givens.BUSY, (x, row) -> x.sign(row, 0));
        Refusals.refusesEach(Refusals.NO_ITEMS, Refusals.INDEX, Givens.BUSY, (x, item) -> x.sign(0, item));
    }

    @Sentence(of = "Promise 20", says = "Returns a cell of the signed sketch of a stream.")
    static void cellsOfTheFirstAndTheLastStream() {
        Countcote x = Givens.with(0, 10);
        x.add(3, 0, 7);
        Check.answers("a cell below 0", -10, x.signedCell(0, 0, 1));
        Check.answers("a cell above 0", 10, x.signedCell(0, 1, 0));
        Check.answers("the last stream", -7, x.signedCell(3, 0, 1));
        Check.answers("another stream", 0, x.signedCell(2, 0, 1));
    }

    @Sentence(of = "Promise 20", says = "- `row`: 0 to 4")
    static void firstAndLastRow() {
        Countcote x = Givens.with(63, 4);
        Check.answers("the first row", 4, x.signedCell(0, 0, 0));
        Check.answers("the last row", -4, x.signedCell(0, 4, 3));
        Refusals.refuses("the row before", Refusals.INDEX, Givens.BUSY, y -> y.signedCell(0, -1, 0));
        Refusals.refuses("the row behind", Refusals.INDEX, Givens.BUSY, y -> y.signedCell(0, 5, 0));
    }

    @Sentence(of = "Promise 20", says = "- `column`: 0 to 7")
    static void firstAndLastColumn() {
        Countcote x = Givens.with(63, 4);
        Check.answers("the first column", 4, x.signedCell(0, 0, 0));
        Check.answers("the last column", 4, x.signedCell(0, 1, 7));
        Check.answers("the last cell", 0, x.signedCell(0, 4, 7));
        Refusals.refuses("the column before", Refusals.INDEX, Givens.BUSY, y -> y.signedCell(0, 1, -1));
        Refusals.refuses("the column behind", Refusals.INDEX, Givens.BUSY, y -> y.signedCell(0, 0, 8));
    }

    @Sentence(of = "Promise 20", says = "Throws `IndexOutOfBoundsException` if there is no such stream, row or column")
    static void noStreamRowOrColumn() {
        Refusals.refusesEach(Refusals.NO_STREAMS, Refusals.INDEX, Givens.BUSY, (x, none) -> x.signedCell(none, 0, 0));
        Refusals.refusesEach(Refusals.around(5), Refusals.INDEX, Givens.BUSY, (x, row) -> x.signedCell(0, row, 0));
        Refusals.refusesEach(Refusals.around(8), Refusals.INDEX, Givens.BUSY, (x, column) -> x.signedCell(0, 0, column));
        Refusals.refusesEach(Refusals.around(8), Refusals.INDEX, Givens.BUSY, (x, column) -> x.signedCell(3, 4, column));
    }

    @Sentence(of = "Promise 21", says = "Returns the signed estimate of an item.")
    static void estimatesOfAllAndOfNothing() {
        Countcote x = Givens.with(0, 13);
        Check.answers("one item alone", 13, x.signedEstimate(0, 0));
        Check.answers("another stream", 0, x.signedEstimate(1, 0));
        Check.answers("one that was never added, below 0", -10, Givens.with(8, 20, 39, 10).signedEstimate(0, 61));
        Check.answers("more than its count", 6, Givens.with(40, 3, 18, 100, 0, 3).signedEstimate(0, 40));
        Check.answers("the last item", 1, Givens.with(63, 1).signedEstimate(0, 63));
        Check.answers("the greatest", 1000000, Givens.made(Givens.holding(1000000)).signedEstimate(0, 7));
        x.clear(0);
        Check.answers("an emptied stream", 0, x.signedEstimate(0, 0));
    }

    @Sentence(of = "Promise 21", says = "Throws `IndexOutOfBoundsException` if there is no such stream or item")
    static void estimateOfNoStreamOrItem() {
        Refusals.refusesEach(Refusals.NO_STREAMS, Refusals.INDEX, Givens.BUSY, (x, none) -> x.signedEstimate(none, 0));
        Refusals.refusesEach(Refusals.NO_ITEMS, Refusals.INDEX, Givens.BUSY, (x, item) -> x.signedEstimate(0, item));
    }

    @Sentence(of = "Promise 22", says = "Returns the signed product of two streams (or of the same one twice).")
    static void productsOfTwoOfOneAndOfNone() {
        Countcote x = Givens.with(5, 13, 13, 4, 40, 2);
        x.add(1, 5, 3);
        Check.answers("the same one twice", 205, x.signedProduct(0, 0));
        Check.answers("two", 39, x.signedProduct(0, 1));
        Check.answers("the other way", 39, x.signedProduct(1, 0));
        Check.answers("with an empty one", 0, x.signedProduct(0, 3));
        Check.answers("an empty one twice", 0, x.signedProduct(2, 2));
        Countcote full = Givens.made(Givens.holding(1000000));
        full.merge(3, 0);
        Check.answers("two full ones, beyond an int", 1000000000000L, full.signedProduct(3, 0));
    }

    @Sentence(of = "Promise 22", says = "Throws `IndexOutOfBoundsException` if there is no such stream, "
            + "or no such other one")
    static void productOfNoStream() {
        Refusals.refusesEach(Refusals.NO_STREAMS, Refusals.INDEX, Givens.BUSY, (x, none) -> x.signedProduct(none, 0));
        Refusals.refusesEach(Refusals.NO_STREAMS, Refusals.INDEX, Givens.BUSY, (x, none) -> x.signedProduct(0, none));
        Refusals.refusesEach(Refusals.NO_STREAMS, Refusals.INDEX, Givens.BUSY, (x, none) -> x.signedProduct(none, none));
    }
}
