/** The sentences about few counters and merging that name a boundary case: in "Terms", and the promises 23 to 26. */
final class CounterSentences {
    private static final String WHEN_ADDED = "When an item is added with a weight: if it has a counter, that grows "
            + "by the weight; otherwise, if there are fewer than 4, there is a new counter with the weight, behind the "
            + "others; otherwise the lesser one of the weight and of the least counter is subtracted from each counter "
            + "and from the weight and added to the number taken, counters that become 0 are gone, and if the weight "
            + "is not 0 then, the item is added with what is left of it in the same way.";
    private static final String PLACE_BY_PLACE = "Merging adds a stream to another one: plain counts, cells and "
            + "counts of halves are added place by place.";
    private static final String PUT_BEHIND = "The counters of the other stream are put behind those of the stream, "
            + "but for items that have a counter in both; there the weights are added.";
    private static final String FIFTH_GREATEST = "If there are more than 4 counters then, the fifth greatest of "
            + "their weights (of equal weights each counts) is subtracted from each and added to the number taken, "
            + "and counters that are not above 0 are gone.";

    private CounterSentences() {
    }

    /** Adds to the stream 0 and looks at its counters: their items and weights in order, and the number taken. */
    private static void checkAdded(String due, Countcote x, int... itemsAndWeights) {
        String before = Picture.countersOf(x, 0);
        Givens.addAll(x, 0, itemsAndWeights);
        Check.same("counters" + before, due, Picture.countersOf(x, 0).trim());
    }

    private static void checkMerged(String due, Countcote x) {
        String before = Picture.countersOf(x, 0) + " and" + Picture.countersOf(x, 1);
        String other = Picture.countersOf(x, 1);
        x.merge(0, 1);
        Check.same("counters" + before, due, Picture.countersOf(x, 0).trim());
        Check.same("the other ones then", other, Picture.countersOf(x, 1));
    }

    /** The stream 0 with four counters, and the stream 1 with the items and weights that are given. */
    private static Countcote fourAnd(int... itemsAndWeights) {
        Countcote x = Givens.with(1, 10, 2, 20, 3, 30, 4, 40);
        Givens.addAll(x, 1, itemsAndWeights);
        return x;
    }

    @Sentence(of = "Terms", says = "A stream has at most 4 counters in a row, each with an item and a weight "
            + "above 0, and a number that was taken, 0 at first.")
    static void neverMoreThan4Counters() {
        Countcote x = new Countcote();
        Check.same("at first", " taken 0", Picture.countersOf(x, 0));
        for (int call = 1; call <= 48; call++) {
            x.add(0, call, 1 + call * 7 % 5);
            int counters = x.counters(0);
            Check.holds("at most 4, not " + counters, counters <= 4);
            for (int place = 0; place < counters; place++) {
                Check.holds("above 0", x.counterOf(0, x.counterItem(0, place)) > 0);
            }
        }
        Check.answers("exactly 4", 4, Givens.with(1, 1, 2, 1, 3, 1, 4, 1).counters(0));
        Check.answers("a fifth item", 0, Givens.with(1, 1, 2, 1, 3, 1, 4, 1, 5, 1).counters(0));
    }

    @Sentence(of = "Terms", says = WHEN_ADDED)
    static void aCounterGrows() {
        checkAdded("5:2 taken 0", Givens.with(5, 1), 5, 1);
        checkAdded("1:11 2:20 3:30 4:40 taken 0", fourAnd(), 1, 1);
        checkAdded("1:10 2:20 3:30 4:1040 taken 0", fourAnd(), 4, 1000);
        checkAdded("7:1000000 taken 0", Givens.made(Givens.holding(999999)), 7, 1);
    }

    @Sentence(of = "Terms", says = WHEN_ADDED)
    static void aNewCounterIsBehindTheOthers() {
        checkAdded("9:1 taken 0", new Countcote(), 9, 1);
        checkAdded("9:1 0:1 taken 0", Givens.with(9, 1), 0, 1);
        checkAdded("9:1 0:1 63:1 taken 0", Givens.with(9, 1, 0, 1), 63, 1);
        checkAdded("9:1 0:1 63:1 5:1 taken 0", Givens.with(9, 1, 0, 1, 63, 1), 5, 1);
    }

    @Sentence(of = "Terms", says = WHEN_ADDED)
    static void lessThanTheLeastCounter() {
        checkAdded("1:9 2:19 3:29 4:39 taken 1", fourAnd(), 5, 1);
        checkAdded("1:1 2:11 3:21 4:31 taken 9", fourAnd(), 5, 9);
        checkAdded("4:31 3:21 2:11 1:1 taken 9", Givens.with(4, 40, 3, 30, 2, 20, 1, 10), 5, 9);
    }

    @Sentence(of = "Terms", says = WHEN_ADDED)
    static void asMuchAsTheLeastCounter() {
        checkAdded("2:10 3:20 4:30 taken 10", fourAnd(), 5, 10);
        checkAdded("1:10 3:20 4:30 taken 10", Givens.with(1, 20, 2, 10, 3, 30, 4, 40), 5, 10);
        checkAdded("taken 6", Givens.with(1, 6, 2, 6, 3, 6, 4, 6), 5, 6);
        checkAdded("1:1 taken 6", Givens.with(1, 7, 2, 6, 3, 6, 4, 6), 5, 6);
    }

    @Sentence(of = "Terms", says = WHEN_ADDED)
    static void moreThanTheLeastCounter() {
        checkAdded("2:10 3:20 4:30 5:1 taken 10", fourAnd(), 5, 11);
        checkAdded("2:10 3:20 4:30 5:990 taken 10", fourAnd(), 5, 1000);
        checkAdded("5:1 taken 6", Givens.with(1, 6, 2, 6, 3, 6, 4, 6), 5, 7);
        checkAdded("2:1 5:994 taken 6", Givens.with(1, 6, 2, 7, 3, 6, 4, 6), 5, 1000);
    }

    @Sentence(of = "Terms", says = WHEN_ADDED)
    static void theLeastCounterIsAtAnyPlace() {
        checkAdded("2:10 3:20 4:30 5:15 taken 10", Givens.with(1, 10, 2, 20, 3, 30, 4, 40), 5, 25);
        checkAdded("2:10 3:20 4:30 5:15 taken 10", Givens.with(2, 20, 1, 10, 3, 30, 4, 40), 5, 25);
        checkAdded("2:10 3:20 4:30 5:15 taken 10", Givens.with(2, 20, 3, 30, 1, 10, 4, 40), 5, 25);
        checkAdded("2:10 3:20 4:30 5:15 taken 10", Givens.with(2, 20, 3, 30, 4, 40, 1, 10), 5, 25);
    }

    @Sentence(of = "Terms", says = WHEN_ADDED)
    static void aCounterThatIsGoneBeginsAnew() {
        checkAdded("2:10 3:20 4:30 1:4 taken 10", fourAnd(), 5, 10, 1, 4);
        checkAdded("2:12 3:16 4:26 1:7 taken 14", fourAnd(), 5, 14, 2, 6, 1, 11);
        checkAdded("6:3 taken 6", Givens.with(1, 6, 2, 6, 3, 6, 4, 6), 5, 6, 6, 3);
    }

    @Sentence(of = "Terms", says = "(So the plain count of an item is at least its counter, and at most its counter "
            + "and the number taken, together.)")
    static void countersHaveCertainBounds() {
        Countcote x = Givens.with(1, 10, 2, 20, 3, 30, 4, 40, 5, 15, 6, 3, 1, 12, 7, 9, 63, 2, 2, 50);
        Givens.addAll(x, 1, 6, 100, 0, 7, 8, 1, 1, 1, 9, 30);
        x.merge(0, 1);
        for (int item = 0; item < 64; item++) {
            int count = x.count(0, item);
            int counter = x.counterOf(0, item);
            Check.holds("the counter of " + item, counter <= count && count <= counter + x.taken(0));
        }
        Check.answers("just its counter", 1000000, Givens.made(Givens.holding(1000000)).counterOf(0, 7));
        Countcote y = fourAnd();
        y.add(0, 5, 10);
        Check.answers("just the number taken", y.count(0, 1), y.counterOf(0, 1) + y.taken(0));
    }

    /** The item 16 shares the column 6 of row 0 with the item 5; each is alone in the other rows. */
    @Sentence(of = "Terms", says = PLACE_BY_PLACE)
    static void cellsAreAddedNotTheGreaterOneTaken() {
        Countcote x = Givens.with(5, 10);
        Givens.addAll(x, 1, 16, 4);
        x.merge(0, 1);
        Check.answers("a shared cell", 14, x.cell(0, 0, 0, 6));
        Check.answers("the estimate of the one", 10, x.estimate(0, 0, 5));
        Check.answers("the estimate of the other", 4, x.estimate(0, 0, 16));
        Check.answers("as if added, it would be less", 10, Givens.with(5, 10, 16, 4).cell(0, 0, 0, 6));
        Check.answers("the count of a half of the one", 10, x.estimate(0, 3, 0));
        Check.answers("the count of a half of the other", 4, x.estimate(0, 3, 2));
        Check.answers("the count of a half of both", 14, x.estimate(0, 5, 0));
        Check.answers("the plain counts", 14, x.count(0, 5) + x.count(0, 16));
    }

    /** In row 0 the items 0 and 15 share the column 1, with the signs -1 and 1. */
    @Sentence(of = "Terms", says = PLACE_BY_PLACE)
    static void signedCellsCanBecome0ByMerging() {
        Countcote x = Givens.with(0, 6);
        Givens.addAll(x, 1, 15, 6);
        Check.answers("below 0 before", -6, x.signedCell(0, 0, 1));
        x.merge(0, 1);
        Check.answers("0 then", 0, x.signedCell(0, 0, 1));
    }

    @Sentence(of = "Terms", says = PLACE_BY_PLACE)
    static void mergingWithAnEmptyStream() {
        Countcote x = Givens.made(Givens.BUSY);
        x.clear(0);
        String before = Picture.of(x, 1);
        x.merge(0, 1);
        Check.same("an empty one becomes the same", before, Picture.of(x, 0));
        Countcote y = Givens.made(Givens.BUSY);
        y.clear(1);
        y.merge(0, 1);
        Check.same("an empty one adds nothing", Picture.of(Givens.made(Givens.BUSY), 0), Picture.of(y, 0));
        Countcote z = new Countcote();
        z.merge(2, 3);
        Check.same("two empty ones", Picture.OF_AN_EMPTY_STREAM, Picture.of(z, 2));
    }

    @Sentence(of = "Terms", says = PUT_BEHIND)
    static void countersInBothKeepTheirPlaces() {
        Countcote x = Givens.with(1, 10, 2, 20);
        Givens.addAll(x, 1, 3, 7, 2, 5, 4, 8);
        checkMerged("1:10 2:25 3:7 4:8 taken 0", x);
        checkMerged("1:14 2:22 3:33 4:44 taken 0", fourAnd(4, 4, 3, 3, 2, 2, 1, 4));
        Countcote y = new Countcote();
        Givens.addAll(y, 1, 9, 1, 0, 2);
        checkMerged("9:1 0:2 taken 0", y);
        Countcote z = Givens.with(63, 1, 0, 1);
        checkMerged("63:1 0:1 taken 0", z);
    }

    @Sentence(of = "Terms", says = "The number taken becomes the sum of both.")
    static void numbersTakenOfBothOfOneOrOfNone() {
        Countcote both = Givens.with(1, 6, 2, 6, 3, 6, 4, 6, 5, 6);
        Givens.addAll(both, 1, 1, 3, 2, 3, 3, 3, 4, 3, 5, 4);
        checkMerged("5:1 taken 9", both);
        Check.answers("that of the other one stays", 3, both.taken(1));
        Countcote first = Givens.with(1, 6, 2, 6, 3, 6, 4, 6, 5, 6);
        checkMerged("taken 6", first);
        checkMerged("1:10 2:20 3:30 4:40 taken 3", fourAnd(1, 3, 2, 3, 3, 3, 4, 3, 5, 3));
        checkMerged("taken 0", new Countcote());
    }

    @Sentence(of = "Terms", says = FIFTH_GREATEST)
    static void exactly4CountersStay() {
        Countcote x = Givens.with(1, 10, 2, 20);
        Givens.addAll(x, 1, 3, 1, 4, 1);
        checkMerged("1:10 2:20 3:1 4:1 taken 0", x);
        checkMerged("1:11 2:20 3:30 4:40 taken 0", fourAnd(1, 1));
        checkMerged("1:10 2:20 3:30 4:40 taken 0", fourAnd());
    }

    @Sentence(of = "Terms", says = FIFTH_GREATEST)
    static void fiveTo8Counters() {
        checkMerged("1:9 2:19 3:29 4:39 taken 1", fourAnd(5, 1));
        checkMerged("2:10 3:20 4:30 5:1 taken 10", fourAnd(5, 11));
        checkMerged("2:10 3:20 4:30 5:90 taken 10", fourAnd(5, 100, 6, 9));
        checkMerged("3:10 4:20 5:80 7:1 taken 20", fourAnd(5, 100, 6, 9, 7, 21));
        checkMerged("5:10 6:20 7:30 8:40 taken 40", fourAnd(5, 50, 6, 60, 7, 70, 8, 80));
        checkMerged("1:2 2:12 3:22 4:32 taken 8", fourAnd(5, 5, 6, 6, 7, 7, 8, 8));
    }

    @Sentence(of = "Terms", says = FIFTH_GREATEST)
    static void ofEqualWeightsEachCounts() {
        checkMerged("2:10 3:20 4:30 taken 10", fourAnd(5, 10));
        checkMerged("3:10 4:20 5:80 taken 20", fourAnd(5, 100, 6, 20));
        checkMerged("taken 10", allAlike(10, 4));
        checkMerged("taken 10", allAlike(10, 1));
        Countcote x = Givens.with(1, 5, 2, 5, 3, 5, 4, 5);
        Givens.addAll(x, 1, 5, 5, 6, 6, 7, 5, 8, 5);
        checkMerged("6:1 taken 5", x);
    }

    /** Four counters of a weight in the stream 0, and some more of it in the stream 1. */
    private static Countcote allAlike(int weight, int more) {
        Countcote x = Givens.with(1, weight, 2, weight, 3, weight, 4, weight);
        for (int item = 5; item < 5 + more; item++) {
            x.add(1, item, weight);
        }
        return x;
    }

    @Sentence(of = "Terms", says = FIFTH_GREATEST)
    static void theFifthGreatestIsAddedToBothNumbersTaken() {
        Countcote x = Givens.with(1, 6, 2, 16, 3, 26, 4, 36, 5, 5);
        Givens.addAll(x, 1, 6, 3, 7, 4, 8, 5, 9, 6, 10, 2);
        Check.same("the one", " 1:1 2:11 3:21 4:31 taken 5", Picture.countersOf(x, 0));
        Check.same("the other", " 6:1 7:2 8:3 9:4 taken 2", Picture.countersOf(x, 1));
        checkMerged("2:8 3:18 4:28 9:1 taken 10", x);
        x.add(0, 1, 1);
        Check.same("a place is taken only by what is there", " 2:7 3:17 4:27 taken 11", Picture.countersOf(x, 0));
    }

    @Sentence(of = "Promise 23", says = "Returns how many counters a stream has.")
    static void noneTo4Counters() {
        Countcote x = new Countcote();
        Check.answers("an empty stream", 0, x.counters(2));
        int[] items = {9, 0, 63, 5};
        for (int i = 0; i < 4; i++) {
            x.add(2, items[i], 10);
            Check.answers("with each new item", i + 1, x.counters(2));
        }
        x.add(2, 63, 1);
        Check.answers("an item that has one", 4, x.counters(2));
        x.add(2, 1, 9);
        Check.answers("an item that gets none", 4, x.counters(2));
        x.add(2, 1, 1);
        Check.answers("three are gone at once", 1, x.counters(2));
        Check.answers("another stream", 0, x.counters(1));
        x.clear(2);
        Check.answers("an emptied stream", 0, x.counters(2));
    }

    @Sentence(of = "Promise 23", says = "Throws `IndexOutOfBoundsException` if there is no such stream")
    static void countersOfNoStream() {
        Refusals.refusesEach(Refusals.NO_STREAMS, Refusals.INDEX, Givens.BUSY, (x, stream) -> x.counters(stream));
    }

    @Sentence(of = "Promise 24", says = "Returns the item of a counter.")
    static void firstAndLastItemWithACounter() {
        Countcote x = Givens.with(63, 1, 0, 2);
        Check.answers("the last item", 63, x.counterItem(0, 0));
        Check.answers("the first item", 0, x.counterItem(0, 1));
        Givens.addAll(x, 3, 5, 3);
        Check.answers("the last stream", 5, x.counterItem(3, 0));
    }

    @Sentence(of = "Promise 24", says = "- `place`: its place in the row, from 0")
    static void firstAndLastPlaceInTheRow() {
        Countcote x = Givens.with(4, 10, 3, 20, 2, 30, 1, 40);
        Check.answers("the first place", 4, x.counterItem(0, 0));
        Check.answers("the second place", 3, x.counterItem(0, 1));
        Check.answers("the third place", 2, x.counterItem(0, 2));
        Check.answers("the last place", 1, x.counterItem(0, 3));
        x.add(0, 5, 10);
        Check.answers("the first one is gone", 3, x.counterItem(0, 0));
        Check.answers("the last one then", 1, x.counterItem(0, 2));
        x.add(0, 4, 1);
        Check.answers("one comes back", 4, x.counterItem(0, 3));
    }

    @Sentence(of = "Promise 24", says = "Throws `IndexOutOfBoundsException` if there is no such stream or counter")
    static void noStreamOrCounter() {
        Refusals.refusesEach(Refusals.NO_STREAMS, Refusals.INDEX, Givens.BUSY, (x, stream) -> x.counterItem(stream, 0));
        Refusals.refusesEach(Refusals.around(4), Refusals.INDEX, Givens.BUSY, (x, place) -> x.counterItem(0, place));
        Refusals.refusesEach(Refusals.around(2), Refusals.INDEX, Givens.BUSY, (x, place) -> x.counterItem(2, place));
        Refusals.refusesEach(Refusals.around(1), Refusals.INDEX, x -> x.add(0, 0, 1), (x, place) -> x.counterItem(0, place));
        Refusals.refuses("an empty stream", Refusals.INDEX, Givens.NOTHING, x -> x.counterItem(0, 0));
        Givens.Given emptied = x -> {
            Givens.BUSY.on(x);
            x.clear(1);
        };
        Refusals.refuses("an emptied stream", Refusals.INDEX, emptied, x -> x.counterItem(1, 0));
    }

    @Sentence(of = "Promise 24", says = "Throws `IndexOutOfBoundsException` if there is no such stream or counter")
    static void aPlaceThatIsFreeAgain() {
        Givens.Given threeLeft = x -> Givens.addAll(x, 0, 1, 10, 2, 20, 3, 30, 4, 40, 5, 10);
        Refusals.refuses("one is gone", Refusals.INDEX, threeLeft, x -> x.counterItem(0, 3));
        Givens.Given noneLeft = x -> Givens.addAll(x, 0, 1, 6, 2, 6, 3, 6, 4, 6, 5, 6);
        Refusals.refuses("all are gone", Refusals.INDEX, noneLeft, x -> x.counterItem(0, 0));
        Refusals.refuses("after a merge", Refusals.INDEX, Givens.BUSY, x -> x.counterItem(3, 4));
    }

    @Sentence(of = "Promise 25", says = "Returns the counter of an item: its weight; 0 if it has none.")
    static void anItemWithoutACounter() {
        Countcote x = fourAnd();
        Check.answers("its weight", 10, x.counterOf(0, 1));
        x.add(0, 5, 15);
        Check.answers("an item that had one", 0, x.counterOf(0, 1));
        Check.answers("an item that got one", 5, x.counterOf(0, 5));
        x.add(0, 6, 1);
        Check.answers("an item that got none", 0, x.counterOf(0, 6));
        Check.answers("an item that was never added", 0, x.counterOf(0, 7));
        Check.answers("the first item, never added", 0, x.counterOf(0, 0));
        Check.answers("an empty stream", 0, x.counterOf(1, 0));
        x.clear(0);
        Check.answers("an emptied stream", 0, x.counterOf(0, 4));
        Check.answers("the least weight", 1, Givens.with(0, 1).counterOf(0, 0));
        Check.answers("the greatest weight", 1000000, Givens.made(Givens.holding(1000000)).counterOf(0, 7));
    }

    @Sentence(of = "Promise 25", says = "Throws `IndexOutOfBoundsException` if there is no such stream or item")
    static void counterOfNoStreamOrItem() {
        Refusals.refusesEach(Refusals.NO_STREAMS, Refusals.INDEX, Givens.BUSY, (x, stream) -> x.counterOf(stream, 0));
        Refusals.refusesEach(Refusals.NO_ITEMS, Refusals.INDEX, Givens.BUSY, (x, item) -> x.counterOf(0, item));
        Refusals.refusesEach(Refusals.NO_ITEMS, Refusals.INDEX, Givens.NOTHING, (x, item) -> x.counterOf(3, item));
    }

    @Sentence(of = "Promise 26", says = "Returns the number that was taken.")
    static void nothingAndMuchTaken() {
        Countcote x = fourAnd();
        Check.answers("nothing yet", 0, x.taken(0));
        x.add(0, 5, 1);
        Check.answers("the least", 1, x.taken(0));
        x.add(0, 5, 9);
        Check.answers("the least counter", 10, x.taken(0));
        x.add(0, 5, 1000);
        Check.answers("nothing more with a place that is free", 10, x.taken(0));
        Check.answers("another stream", 0, x.taken(1));
        x.clear(0);
        Check.answers("an emptied stream", 0, x.taken(0));
    }

    /** Each of five items 200 times 1000: all four counters go with the fifth item, and nothing is left of it. */
    @Sentence(of = "Promise 26", says = "Returns the number that was taken.")
    static void theGreatestNumberTaken() {
        Countcote x = new Countcote();
        for (int item = 1; item <= 5; item++) {
            Givens.hold(x, 1, item, 200000);
            x.merge(0, 1);
            x.clear(1);
        }
        Check.answers("the total", 1000000, x.total(0));
        Check.same("all are gone", " taken 200000", Picture.countersOf(x, 0));
    }

    @Sentence(of = "Promise 26", says = "Throws `IndexOutOfBoundsException` if there is no such stream")
    static void takenOfNoStream() {
        Refusals.refusesEach(Refusals.NO_STREAMS, Refusals.INDEX, Givens.BUSY, (x, stream) -> x.taken(stream));
    }
}
