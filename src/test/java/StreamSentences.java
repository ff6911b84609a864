/** The sentences of the promises 1 to 8 that name a boundary case: streams and plain counts. */
final class StreamSentences {
    private static final String NO_STREAM = "Throws `IndexOutOfBoundsException` if there is no such stream";
    private static final String NO_STREAM_OR_ITEM = NO_STREAM + " or item";
    private static final String NO_OTHER = NO_STREAM + ", or no such other one";
    private static final String ABOVE = "Throws `IllegalStateException` if the total would be above 1000000";
    private static final String EMPTIES = "Empties a stream: everything about it is as at first.";
    private static final String ADDS_STREAM = "Adds a stream to another one; it stays as it is itself.";

    private StreamSentences() {
    }

    @Sentence(of = "Promise 1", says = "Creates four empty streams.")
    static void fourEmptyStreams() {
        Countcote used = Givens.made(Givens.BUSY);
        for (int stream = 0; stream < 4; stream++) {
            Check.same("stream " + stream, Picture.OF_AN_EMPTY_STREAM, Picture.of(new Countcote(), stream));
        }
        Check.answers("another object is not emptied", 115, used.total(0));
        Refusals.refuses("a fifth stream", Refusals.INDEX, Givens.NOTHING, x -> x.total(4));
    }

    @Sentence(of = "Promise 2", says = "Adds an item to a stream.")
    static void onlyOneStreamChanges() {
        for (int stream = 0; stream < 4; stream++) {
            for (int other = 0; other < 4; other++) {
                Countcote x = Givens.made(Givens.BUSY);
                x.add(stream, 63, 1000);
                boolean same = Picture.of(x, other).equals(Picture.of(Givens.made(Givens.BUSY), other));
                Check.holds("added to " + stream + ", seen in " + other, same == (stream != other));
            }
        }
    }

    @Sentence(of = "Promise 2", says = "- `weight`: 1 to 1000")
    static void leastAndGreatestWeight() {
        Countcote x = new Countcote();
        x.add(0, 0, 1);
        x.add(0, 63, 1000);
        Check.answers("the least", 1, x.count(0, 0));
        Check.answers("the greatest", 1000, x.count(0, 63));
        Check.answers("its estimate", 1000, x.estimate(0, 0, 63));
        Check.answers("its signed estimate", 1000, x.signedEstimate(0, 63));
        Check.answers("its counter", 1000, x.counterOf(0, 63));
    }

    @Sentence(of = "Promise 2", says = "Returns the total of the stream then.")
    static void totalAfterAdding() {
        Countcote x = new Countcote();
        Check.answers("an empty stream", 1, x.add(1, 5, 1));
        Check.answers("with another item", 1001, x.add(1, 6, 1000));
        Check.answers("with the same item", 1003, x.add(1, 5, 2));
        Check.answers("another stream", 4, x.add(2, 5, 4));
        Check.answers("the greatest total", 1000000, Givens.made(Givens.holding(999000)).add(0, 7, 1000));
    }

    @Sentence(of = "Promise 2", says = NO_STREAM_OR_ITEM)
    static void addToNoStreamOrNoItem() {
        Refusals.refusesEach(Refusals.NO_STREAMS, Refusals.INDEX, Givens.BUSY, (x, stream) -> x.add(stream, 0, 1));
        Refusals.refusesEach(Refusals.NO_ITEMS, Refusals.INDEX, Givens.BUSY, (x, item) -> x.add(0, item, 1));
        Refusals.refusesEach(Refusals.NO_ITEMS, Refusals.INDEX, Givens.NOTHING, (x, item) -> x.add(3, item, 1000));
    }

    @Sentence(of = "Promise 2", says = "Throws `IllegalArgumentException` if weight is out of range")
    static void weightOutOfRange() {
        int[] weights = {0, 1001, -1, -1000, 1 << 16, Integer.MIN_VALUE, Integer.MAX_VALUE};
        Refusals.refusesEach(weights, Refusals.ARGUMENT, Givens.BUSY, (x, weight) -> x.add(0, 5, weight));
        Refusals.refusesEach(weights, Refusals.ARGUMENT, Givens.NOTHING, (x, weight) -> x.add(3, 63, weight));
    }

    @Sentence(of = "Promise 2", says = ABOVE)
    static void addAboveTheLimit() {
        Refusals.refuses("999999 and 2", Refusals.STATE, Givens.holdingBesideOthers(999999), x -> x.add(0, 1, 2));
        Refusals.refuses("999001 and 1000", Refusals.STATE, Givens.holdingBesideOthers(999001), x -> x.add(0, 7, 1000));
        Refusals.refuses("1000000 and 1", Refusals.STATE, Givens.holdingBesideOthers(1000000), x -> x.add(0, 7, 1));
        Refusals.refuses("1000000 and 1000", Refusals.STATE, Givens.holding(1000000), x -> x.add(0, 0, 1000));
    }

    @Sentence(of = "Promise 2", says = ABOVE)
    static void addUpToTheLimit() {
        Check.answers("999999 and 1", 1000000, Givens.made(Givens.holding(999999)).add(0, 1, 1));
        Check.answers("999000 and 1000", 1000000, Givens.made(Givens.holding(999000)).add(0, 1, 1000));
        Countcote x = Givens.made(Givens.holding(1000000));
        Check.answers("another stream is not full", 1000, x.add(1, 7, 1000));
        x.clear(0);
        Check.answers("an emptied stream is not full", 1000, x.add(0, 7, 1000));
    }

    @Sentence(of = "Promise 3", says = ADDS_STREAM)
    static void theOtherOneStays() {
        for (int stream = 0; stream < 4; stream++) {
            int changed = (stream + 1) % 4;
            for (int seen = 0; seen < 4; seen++) {
                Countcote x = Givens.made(Givens.BUSY);
                x.merge(changed, stream);
                boolean same = Picture.of(x, seen).equals(Picture.of(Givens.made(Givens.BUSY), seen));
                Check.holds("merged to " + changed + ", seen in " + seen, same == (seen != changed));
            }
        }
    }

    @Sentence(of = "Promise 3", says = ADDS_STREAM)
    static void mergedStreamsPartAgain() {
        Countcote x = Givens.with(1, 10, 2, 20, 3, 30, 4, 40, 5, 15);
        x.merge(1, 0);
        String before = Picture.of(x, 0);
        x.add(1, 9, 500);
        Check.same("one is added to", before, Picture.of(x, 0));
        Countcote y = Givens.with(1, 10, 2, 20, 3, 30, 4, 40, 5, 15);
        y.merge(1, 0);
        y.clear(0);
        Check.same("the other one is emptied", before, Picture.of(y, 1));
    }

    @Sentence(of = "Promise 3", says = "- `stream`: the one that it is added to")
    static void theFirstOneChanges() {
        Countcote x = Givens.with(5, 10);
        x.add(3, 6, 4);
        x.merge(3, 0);
        Check.answers("the first one", 14, x.total(3));
        Check.answers("its count", 10, x.count(3, 5));
        Check.answers("the other one", 10, x.total(0));
        Check.answers("its count", 0, x.count(0, 6));
    }

    @Sentence(of = "Promise 3", says = "Returns the total of the stream then.")
    static void totalAfterMerging() {
        Countcote x = Givens.with(5, 10);
        x.add(1, 5, 7);
        Check.answers("both", 17, x.merge(0, 1));
        Check.answers("an empty one to it", 17, x.merge(0, 2));
        Check.answers("it to an empty one", 17, x.merge(2, 0));
        Check.answers("empty ones", 0, new Countcote().merge(3, 2));
        Countcote full = Givens.made(Givens.holdingBesideOthers(999000));
        Check.answers("the greatest total", 1000000, full.merge(0, 3));
    }

    @Sentence(of = "Promise 3", says = NO_OTHER)
    static void mergeOfNoStream() {
        Refusals.refusesEach(Refusals.NO_STREAMS, Refusals.INDEX, Givens.BUSY, (x, stream) -> x.merge(stream, 0));
        Refusals.refusesEach(Refusals.NO_STREAMS, Refusals.INDEX, Givens.BUSY, (x, other) -> x.merge(0, other));
        Refusals.refusesEach(Refusals.NO_STREAMS, Refusals.INDEX, Givens.NOTHING, (x, none) -> x.merge(none, none));
    }

    @Sentence(of = "Promise 3", says = "Throws `IllegalArgumentException` if both are the same")
    static void mergeWithItself() {
        int[] streams = {0, 1, 2, 3};
        Refusals.refusesEach(streams, Refusals.ARGUMENT, Givens.BUSY, (x, stream) -> x.merge(stream, stream));
        Refusals.refusesEach(streams, Refusals.ARGUMENT, Givens.NOTHING, (x, stream) -> x.merge(stream, stream));
        Refusals.refuses("a full one", Refusals.ARGUMENT, Givens.holding(1000000), x -> x.merge(0, 0));
    }

    @Sentence(of = "Promise 3", says = ABOVE)
    static void mergeAboveTheLimit() {
        Givens.Given full = Givens.holdingBesideOthers(1000000);
        Refusals.refuses("1000000 and 1", Refusals.STATE, full, x -> x.merge(0, 1));
        Refusals.refuses("1 and 1000000", Refusals.STATE, full, x -> x.merge(1, 0));
        Refusals.refuses("999501 and 500", Refusals.STATE, Givens.holdingBesideOthers(999501), x -> x.merge(0, 2));
        Refusals.refuses("1000 and 999001", Refusals.STATE, Givens.holdingBesideOthers(999001), x -> x.merge(3, 0));
        Givens.Given two = x -> {
            Givens.holding(1000000).on(x);
            x.merge(1, 0);
        };
        Refusals.refuses("1000000 and 1000000", Refusals.STATE, two, x -> x.merge(0, 1));
    }

    @Sentence(of = "Promise 3", says = ABOVE)
    static void mergeUpToTheLimit() {
        Check.answers("999999 and 1", 1000000, Givens.made(Givens.holdingBesideOthers(999999)).merge(0, 1));
        Check.answers("500 and 999500", 1000000, Givens.made(Givens.holdingBesideOthers(999500)).merge(2, 0));
        Check.answers("1000000 and 0", 1000000, Givens.made(Givens.holding(1000000)).merge(0, 1));
        Check.answers("0 and 1000000", 1000000, Givens.made(Givens.holding(1000000)).merge(1, 0));
        Countcote halves = Givens.made(Givens.holding(500000));
        halves.merge(1, 0);
        Check.answers("500000 twice", 1000000, halves.merge(0, 1));
    }

    @Sentence(of = "Promise 4", says = EMPTIES)
    static void everythingIsAsAtFirst() {
        for (int cleared = 0; cleared < 4; cleared++) {
            for (int seen = 0; seen < 4; seen++) {
                Countcote x = Givens.made(Givens.BUSY);
                x.clear(cleared);
                String due = seen == cleared ? Picture.OF_AN_EMPTY_STREAM : Picture.of(Givens.made(Givens.BUSY), seen);
                Check.same("cleared " + cleared + ", seen " + seen, due, Picture.of(x, seen));
            }
        }
    }

    @Sentence(of = "Promise 4", says = EMPTIES)
    static void aFullStreamAndAnEmptyOne() {
        Countcote full = Givens.made(Givens.holding(1000000));
        full.clear(0);
        Check.same("a full one", Picture.OF_AN_EMPTY_STREAM, Picture.of(full, 0));
        Countcote empty = new Countcote();
        empty.clear(3);
        Check.same("an empty one", Picture.OF_AN_EMPTY_STREAM, Picture.of(empty, 3));
        Countcote again = Givens.made(Givens.BUSY);
        again.clear(0);
        again.add(0, 9, 6);
        Check.same("added to then", Picture.of(Givens.with(9, 6), 0), Picture.of(again, 0));
    }

    @Sentence(of = "Promise 4", says = "Returns its total before.")
    static void totalBeforeClearing() {
        Countcote x = Givens.made(Givens.holdingBesideOthers(1000000));
        Check.answers("the greatest", 1000000, x.clear(0));
        Check.answers("an emptied one", 0, x.clear(0));
        Check.answers("the least", 1, x.clear(1));
        Check.answers("the last stream", 1000, x.clear(3));
        Check.answers("a new one", 0, new Countcote().clear(2));
    }

    @Sentence(of = "Promise 4", says = NO_STREAM)
    static void clearOfNoStream() {
        Refusals.refusesEach(Refusals.NO_STREAMS, Refusals.INDEX, Givens.BUSY, (x, stream) -> x.clear(stream));
    }

    @Sentence(of = "Promise 5", says = "Returns the total of a stream.")
    static void totalOfAnEmptyAndAFullStream() {
        Countcote x = Givens.made(Givens.holdingBesideOthers(1000000));
        Check.answers("a full one", 1000000, x.total(0));
        Check.answers("the least one above 0", 1, x.total(1));
        Check.answers("the last stream", 1000, x.total(3));
        x.clear(3);
        Check.answers("an emptied one", 0, x.total(3));
        Check.answers("a new one", 0, new Countcote().total(0));
    }

    @Sentence(of = "Promise 5", says = NO_STREAM)
    static void totalOfNoStream() {
        Refusals.refusesEach(Refusals.NO_STREAMS, Refusals.INDEX, Givens.BUSY, (x, stream) -> x.total(stream));
    }

    /** The item 0 shares all cells with the item 61, but its plain count is 0. */
    @Sentence(of = "Promise 6", says = "Returns the plain count of an item.")
    static void countOfAnItemThatWasNeverAdded() {
        Countcote x = Givens.with(61, 5, 63, 1, 1, 1000);
        Check.answers("the first item, never added", 0, x.count(0, 0));
        Check.answers("the last item", 1, x.count(0, 63));
        Check.answers("the greatest weight", 1000, x.count(0, 1));
        Check.answers("another stream", 0, x.count(3, 61));
        Check.answers("the greatest count", 1000000, Givens.made(Givens.holding(1000000)).count(0, 7));
    }

    @Sentence(of = "Promise 6", says = NO_STREAM_OR_ITEM)
    static void countOfNoStreamOrItem() {
        Refusals.refusesEach(Refusals.NO_STREAMS, Refusals.INDEX, Givens.BUSY, (x, stream) -> x.count(stream, 0));
        Refusals.refusesEach(Refusals.NO_ITEMS, Refusals.INDEX, Givens.BUSY, (x, item) -> x.count(0, item));
    }

    @Sentence(of = "Promise 7", says = "Returns the sum of the plain counts of the items from one to another one.")
    static void bothEndsOfTheRange() {
        Countcote x = Givens.with(0, 1, 5, 20, 6, 300, 63, 400);
        Check.answers("the whole", 721, x.countOfRange(0, 0, 63));
        Check.answers("one item", 20, x.countOfRange(0, 5, 5));
        Check.answers("the first item", 1, x.countOfRange(0, 0, 0));
        Check.answers("the last item", 400, x.countOfRange(0, 63, 63));
        Check.answers("with both ends", 320, x.countOfRange(0, 5, 6));
        Check.answers("without the one behind it", 21, x.countOfRange(0, 0, 5));
        Check.answers("without the one before it", 700, x.countOfRange(0, 6, 63));
        Check.answers("between them", 0, x.countOfRange(0, 7, 62));
        Check.answers("another stream", 0, x.countOfRange(1, 0, 63));
        Check.answers("a full stream", 1000000, Givens.made(Givens.holding(1000000)).countOfRange(0, 7, 7));
    }

    @Sentence(of = "Promise 7", says = NO_STREAM + ", or no item from or to")
    static void countOfRangeOfNoStreamOrItem() {
        Refusals.refusesEach(Refusals.NO_STREAMS, Refusals.INDEX, Givens.BUSY, (x, none) -> x.countOfRange(none, 0, 63));
        Refusals.refusesNoItemsInRange(Givens.BUSY, (x, from, to) -> x.countOfRange(0, from, to));
    }

    @Sentence(of = "Promise 7", says = "Throws `IllegalArgumentException` if to is less than from")
    static void countOfRangeBackwards() {
        Refusals.refusesRangeBackwards(Givens.BUSY, (x, from, to) -> x.countOfRange(0, from, to));
    }

    @Sentence(of = "Promise 8", says = "Returns the sum over all items of the product of their plain counts "
            + "in two streams (or in the same one twice).")
    static void productOfTwoOfOneAndOfNone() {
        Countcote x = Givens.with(0, 3, 2, 4, 63, 5);
        Givens.addAll(x, 1, 0, 2, 3, 7, 63, 1000);
        Check.answers("the first item and the last one", 5006, x.product(0, 1));
        Check.answers("the other way", 5006, x.product(1, 0));
        Check.answers("the same one twice", 50, x.product(0, 0));
        Check.answers("with an empty one", 0, x.product(0, 2));
        Check.answers("an empty one twice", 0, x.product(3, 3));
        x.add(2, 1, 1000);
        Check.answers("no item in both", 0, x.product(0, 2));
    }

    @Sentence(of = "Promise 8", says = "Returns the sum over all items of the product of their plain counts "
            + "in two streams (or in the same one twice).")
    static void productBeyondAnInt() {
        Countcote x = Givens.made(Givens.holding(1000000));
        Check.answers("a full one twice", 1000000000000L, x.product(0, 0));
        x.merge(3, 0);
        Check.answers("two full ones", 1000000000000L, x.product(3, 0));
        Countcote y = Givens.made(Givens.holding(46341));
        Check.answers("just beyond an int", 2147488281L, y.product(0, 0));
        Countcote z = Givens.made(Givens.holding(46340));
        Givens.addAll(z, 0, 1, 200, 2, 72);
        Check.answers("the sum just beyond an int", 2147395600L + 40000 + 5184, z.product(0, 0));
        z.add(0, 3, 300);
        Check.answers("the sum beyond an int", 2147395600L + 40000 + 5184 + 90000, z.product(0, 0));
    }

    @Sentence(of = "Promise 8", says = NO_OTHER)
    static void productOfNoStream() {
        Refusals.refusesEach(Refusals.NO_STREAMS, Refusals.INDEX, Givens.BUSY, (x, stream) -> x.product(stream, 0));
        Refusals.refusesEach(Refusals.NO_STREAMS, Refusals.INDEX, Givens.BUSY, (x, other) -> x.product(0, other));
        Refusals.refusesEach(Refusals.NO_STREAMS, Refusals.INDEX, Givens.BUSY, (x, none) -> x.product(none, none));
    }
}
