import java.util.ArrayList;
import java.util.Arrays;
import java.util.List;
import java.util.NoSuchElementException;

/**
 * The document once more, word by word and in another way than the program: each call is answered
 * from tables that are filled as the terms say, and halves are summed from the plain counts.
 */
public final class Model {
    private static final int[] A = {7, 11, 23};
    private static final int[] B = {3, 19, 5};
    private static final int[] C = {5, 9, 14, 27, 33};
    private static final int[] D = {1, 8, 2, 40, 17};
    private static final int[] E = {3, 10, 21, 29, 44};
    private static final int[] F = {7, 0, 13, 5, 30};

    private static final class State {
        final int[] plain = new int[64];
        final int[][][] careful = new int[3][3][8];
        final int[][] signed = new int[5][8];
        List<int[]> counters = new ArrayList<>();
        int taken = 0;
    }

    private final State[] states = {new State(), new State(), new State(), new State()};

    public int add(int stream, int item, int weight) {
        index(stream, 4);
        index(item, 64);
        argument(weight >= 1 && weight <= 1000);
        state(total(stream) + weight <= 1000000);
        State s = states[stream];
        s.plain[item] += weight;
        for (int level = 0; level < 3; level++) {
            int half = item >> level;
            int reached = carefulEstimate(s, level, half) + weight;
            for (int row = 0; row < 3; row++) {
                int column = column(row, half);
                if (s.careful[level][row][column] <= reached) {
                    s.careful[level][row][column] = reached;
                }
            }
        }
        for (int row = 0; row < 5; row++) {
            s.signed[row][signedColumn(row, item)] += sign(row, item) * weight;
        }
        count(s, item, weight);
        return total(stream);
    }

    private static void count(State s, int item, int weight) {
        for (int[] counter : s.counters) {
            if (counter[0] == item) {
                counter[1] += weight;
                return;
            }
        }
        if (s.counters.size() < 4) {
            s.counters.add(new int[] {item, weight});
            return;
        }
        int least = Integer.MAX_VALUE;
        for (int[] counter : s.counters) {
            least = Math.min(least, counter[1]);
        }
        int lesser = Math.min(weight, least);
        subtract(s, lesser);
        if (weight - lesser != 0) {
            count(s, item, weight - lesser);
        }
    }

    private static void subtract(State s, int amount) {
        for (int[] counter : s.counters) {
            counter[1] -= amount;
        }
        s.counters.removeIf(counter -> counter[1] <= 0);
        s.taken += amount;
    }

    public int merge(int stream, int other) {
        index(stream, 4);
        index(other, 4);
        argument(stream != other);
        state(total(stream) + total(other) <= 1000000);
        State s = states[stream];
        State o = states[other];
        for (int item = 0; item < 64; item++) {
            s.plain[item] += o.plain[item];
        }
        for (int level = 0; level < 3; level++) {
            for (int row = 0; row < 3; row++) {
                for (int column = 0; column < 8; column++) {
                    s.careful[level][row][column] += o.careful[level][row][column];
                }
            }
        }
        for (int row = 0; row < 5; row++) {
            for (int column = 0; column < 8; column++) {
                s.signed[row][column] += o.signed[row][column];
            }
        }
        mergeCounters(s, o);
        return total(stream);
    }

    private static void mergeCounters(State s, State o) {
        List<int[]> behind = new ArrayList<>();
        for (int[] theirs : o.counters) {
            boolean both = false;
            for (int[] own : s.counters) {
                if (own[0] == theirs[0]) {
                    own[1] += theirs[1];
                    both = true;
                }
            }
            if (!both) {
                behind.add(theirs.clone());
            }
        }
        s.counters.addAll(behind);
        s.taken += o.taken;
        if (s.counters.size() > 4) {
            int[] weights = new int[s.counters.size()];
            for (int i = 0; i < weights.length; i++) {
                weights[i] = s.counters.get(i)[1];
            }
            Arrays.sort(weights);
            subtract(s, weights[weights.length - 5]);
        }
    }

    public int clear(int stream) {
        int before = total(stream);
        states[stream] = new State();
        return before;
    }

    public int total(int stream) {
        index(stream, 4);
        return sum(stream, 0, 63);
    }

    public int count(int stream, int item) {
        index(stream, 4);
        index(item, 64);
        return states[stream].plain[item];
    }

    public int countOfRange(int stream, int from, int to) {
        index(stream, 4);
        range(from, to);
        return sum(stream, from, to);
    }

    private int sum(int stream, int from, int to) {
        int sum = 0;
        for (int item = from; item <= to; item++) {
            sum += states[stream].plain[item];
        }
        return sum;
    }

    public long product(int stream, int other) {
        index(stream, 4);
        index(other, 4);
        long sum = 0;
        for (int item = 0; item < 64; item++) {
            sum += (long) states[stream].plain[item] * (long) states[other].plain[item];
        }
        return sum;
    }

    public int column(int row, int half) {
        index(row, 3);
        index(half, 64);
        return (A[row] * half + B[row]) % 61 % 8;
    }

    public int cell(int stream, int level, int row, int column) {
        index(stream, 4);
        index(level, 3);
        index(row, 3);
        index(column, 8);
        return states[stream].careful[level][row][column];
    }

    public int estimate(int stream, int level, int half) {
        index(stream, 4);
        index(level, 7);
        index(half, 64 >> level);
        if (level < 3) {
            return carefulEstimate(states[stream], level, half);
        }
        int sum = 0;
        for (int item = 0; item < 64; item++) {
            if (item >> level == half) {
                sum += states[stream].plain[item];
            }
        }
        return sum;
    }

    private int carefulEstimate(State s, int level, int half) {
        int[] three = new int[3];
        for (int row = 0; row < 3; row++) {
            three[row] = s.careful[level][row][column(row, half)];
        }
        Arrays.sort(three);
        return three[0];
    }

    public double share(int stream, int item) {
        index(stream, 4);
        index(item, 64);
        return total(stream) == 0 ? 0.0 : (double) estimate(stream, 0, item) / total(stream);
    }

    public int parts(int from, int to) {
        return levels(from, to).size();
    }

    public int estimateOfRange(int stream, int from, int to) {
        index(stream, 4);
        int next = from;
        int sum = 0;
        for (int level : levels(from, to)) {
            sum += estimate(stream, level, next >> level);
            next += 1 << level;
        }
        return sum;
    }

    private static List<Integer> levels(int from, int to) {
        range(from, to);
        List<Integer> levels = new ArrayList<>();
        for (int next = from; next <= to;) {
            int level = 6;
            while (next % (1 << level) != 0 || next + (1 << level) > to + 1) {
                level--;
            }
            levels.add(level);
            next += 1 << level;
        }
        return levels;
    }

    public int frequent(int stream, int least) {
        return frequentOnes(stream, least).size();
    }

    public int frequentAt(int stream, int least, int place) {
        List<Integer> ones = frequentOnes(stream, least);
        if (place < 0 || place >= ones.size()) {
            throw new NoSuchElementException();
        }
        return ones.get(place);
    }

    private List<Integer> frequentOnes(int stream, int least) {
        index(stream, 4);
        argument(least >= 1 && least <= 1000000);
        List<Integer> ones = new ArrayList<>();
        for (int item = 0; item < 64; item++) {
            boolean all = true;
            for (int level = 0; level <= 6; level++) {
                all &= estimate(stream, level, item >> level) >= least;
            }
            if (all) {
                ones.add(item);
            }
        }
        return ones;
    }

    public int itemOfRank(int stream, int rank) {
        index(stream, 4);
        argument(rank >= 1 && rank <= total(stream));
        return down(stream, 6, 0, rank);
    }

    private int down(int stream, int level, int half, int rank) {
        if (level == 0) {
            return half;
        }
        int first = estimate(stream, level - 1, half * 2);
        if (rank <= first) {
            return down(stream, level - 1, half * 2, rank);
        }
        return down(stream, level - 1, half * 2 + 1, rank - first);
    }

    public int signedColumn(int row, int item) {
        index(row, 5);
        index(item, 64);
        return (C[row] * item + D[row]) % 67 % 8;
    }

    public int sign(int row, int item) {
        index(row, 5);
        index(item, 64);
        boolean even = (E[row] * item + F[row]) % 71 % 2 == 0;
        return even ? 1 : -1;
    }

    public int signedCell(int stream, int row, int column) {
        index(stream, 4);
        index(row, 5);
        index(column, 8);
        return states[stream].signed[row][column];
    }

    public int signedEstimate(int stream, int item) {
        index(stream, 4);
        index(item, 64);
        int[] five = new int[5];
        for (int row = 0; row < 5; row++) {
            five[row] = sign(row, item) * states[stream].signed[row][signedColumn(row, item)];
        }
        Arrays.sort(five);
        return five[2];
    }

    public long signedProduct(int stream, int other) {
        index(stream, 4);
        index(other, 4);
        long[] five = new long[5];
        for (int row = 0; row < 5; row++) {
            for (int column = 0; column < 8; column++) {
                long one = states[stream].signed[row][column];
                five[row] += one * states[other].signed[row][column];
            }
        }
        Arrays.sort(five);
        return five[2];
    }

    public int counters(int stream) {
        index(stream, 4);
        return states[stream].counters.size();
    }

    public int counterItem(int stream, int place) {
        index(stream, 4);
        index(place, counters(stream));
        return states[stream].counters.get(place)[0];
    }

    public int counterOf(int stream, int item) {
        index(stream, 4);
        index(item, 64);
        for (int[] counter : states[stream].counters) {
            if (counter[0] == item) {
                return counter[1];
            }
        }
        return 0;
    }

    public int taken(int stream) {
        index(stream, 4);
        return states[stream].taken;
    }

    private static void index(int place, int size) {
        if (place < 0 || place >= size) {
            throw new IndexOutOfBoundsException();
        }
    }

    private static void range(int from, int to) {
        index(from, 64);
        index(to, 64);
        argument(from <= to);
    }

    private static void argument(boolean right) {
        if (!right) {
            throw new IllegalArgumentException();
        }
    }

    private static void state(boolean right) {
        if (!right) {
            throw new IllegalStateException();
        }
    }
}
