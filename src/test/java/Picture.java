/** All that can be asked about a stream, as a text: some 200 calls. */
final class Picture {
    static final String OF_AN_EMPTY_STREAM = emptyOne();

    private Picture() {
    }

    static String of(Countcote x, int stream) {
        StringBuilder text = new StringBuilder("total " + x.total(stream));
        text.append("\n counts");
        for (int item = 0; item < 64; item++) {
            text.append(' ').append(x.count(stream, item));
        }
        text.append("\n cells");
        for (int cell = 0; cell < 72; cell++) {
            text.append(' ').append(x.cell(stream, cell / 24, cell / 8 % 3, cell % 8));
        }
        text.append("\n halves");
        for (int level = 3; level <= 6; level++) {
            for (int half = 0; half < 64 >> level; half++) {
                text.append(' ').append(x.estimate(stream, level, half));
            }
        }
        text.append("\n signed cells");
        for (int cell = 0; cell < 40; cell++) {
            text.append(' ').append(x.signedCell(stream, cell / 8, cell % 8));
        }
        return text.append("\n counters").append(countersOf(x, stream)).toString();
    }

    /** The counters in their order, each with its weight, and the number taken. */
    static String countersOf(Countcote x, int stream) {
        StringBuilder text = new StringBuilder();
        int counters = x.counters(stream);
        for (int place = 0; place < counters; place++) {
            int item = x.counterItem(stream, place);
            text.append(' ').append(item).append(':').append(x.counterOf(stream, item));
        }
        return text.append(" taken ").append(x.taken(stream)).toString();
    }

    private static String emptyOne() {
        return "total 0\n counts" + " 0".repeat(64) + "\n cells" + " 0".repeat(72) + "\n halves" + " 0".repeat(15)
                + "\n signed cells" + " 0".repeat(40) + "\n counters taken 0";
    }
}
