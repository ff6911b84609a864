import java.lang.reflect.InvocationTargetException;
import java.lang.reflect.Method;
import java.util.Arrays;

/** Long runs of chosen-by-number calls, each answered by the program and by the model alike. */
final class ModelTest {
    private static final int CALLS = 512;
    private static final int RUNS = 1500;
    private static final int MOST_WRONG = 20;

    /** A call's name, and a sign for each of its arguments, which tells how it is chosen. */
    private static final String[] CHANGES = {"add siw", "add siw", "add siw", "add siw", "merge ss", "clear s"};
    private static final String[] QUESTIONS = {
        "total s", "count si", "countOfRange sii", "product ss", "column ri", "cell slrc", "estimate slh",
        "share si", "parts ii", "estimateOfRange sii", "frequent sn", "frequentAt snp", "itemOfRank sk",
        "signedColumn ri", "sign ri", "signedCell src", "signedEstimate si", "signedProduct ss",
        "counters s", "counterItem sp", "counterOf si", "taken s"};
    private static final int[] WRONG_ONES = {
        -1, Integer.MIN_VALUE, Integer.MAX_VALUE, 3, 4, 5, 6, 7, 8, 63, 64, 65, 0, 1000, 1001, 1000000, 1000001};

    private static long seed;
    private static int streamsUsed;
    private static int itemsUsed;
    private static boolean onlyAdds;

    public static void main(String[] args) throws Exception {
        for (int run = 0; run < RUNS && Check.wrongOnes() < MOST_WRONG; run++) {
            seed = 1000003L * run + 17;
            streamsUsed = 1 + pick(4);
            itemsUsed = run % 3 == 0 ? 64 : 2 + pick(14);
            onlyAdds = run % 4 == 0;
            compare(run, run % 5);
        }
        Check.end("ModelTest");
    }

    /** The greater the share of questions, the sooner a wrong change is seen; the less, the fuller the streams. */
    private static void compare(int run, int questions) throws Exception {
        Countcote program = new Countcote();
        Model model = new Model();
        for (int call = 0; call < CALLS && Check.wrongOnes() < MOST_WRONG; call++) {
            boolean asks = call >= CALLS - 100 || pick(6) < questions;
            String[] parts = oneOf(asks ? QUESTIONS : CHANGES).split(" ");
            if (onlyAdds && parts[0].equals("clear")) {
                parts = new String[] {"merge", "ss"};
            }
            Object[] arguments = argumentsFor(parts[1], model);
            String what = "run " + run + ", call " + call + ": " + parts[0] + Arrays.toString(arguments);
            Check.same(what, ask(model, parts[0], arguments), ask(program, parts[0], arguments));
        }
    }

    private static String ask(Object asked, String name, Object[] arguments) throws Exception {
        Class<?>[] types = new Class<?>[arguments.length];
        Arrays.fill(types, int.class);
        Method method = asked.getClass().getMethod(name, types);
        try {
            return method.invoke(asked, arguments).toString();
        } catch (InvocationTargetException e) {
            return "throws " + e.getCause().getClass().getName();
        }
    }

    private static Object[] argumentsFor(String signs, Model model) {
        Object[] arguments = new Object[signs.length()];
        int stream = pick(streamsUsed);
        for (int i = 0; i < arguments.length; i++) {
            if (pick(60) == 0) {
                arguments[i] = WRONG_ONES[pick(WRONG_ONES.length)];
            } else if (i == 0 && signs.charAt(0) == 's') {
                arguments[i] = stream;
            } else {
                arguments[i] = argumentFor(signs.charAt(i), stream, model);
            }
        }
        return arguments;
    }

    private static int argumentFor(char sign, int stream, Model model) {
        int total = model.total(stream);
        switch (sign) {
            case 's': return pick(4);
            case 'i': return pick(3) == 0 ? pick(64) : pick(itemsUsed);
            case 'w': return pick(2) == 0 ? 1 + pick(9) : 1 + pick(1000);
            case 'r': return pick(5);
            case 'c': return pick(8);
            case 'l': return pick(7);
            case 'h': return pick(pick(2) == 0 ? 8 : 64);
            case 'n': return 1 + pick(total / 3 + 2);
            case 'p': return pick(5);
            default: return pick(8) == 0 ? total + pick(2) : 1 + pick(total + 1);
        }
    }

    private static String oneOf(String[] texts) {
        return texts[pick(texts.length)];
    }

    private static int pick(int bound) {
        seed = seed * 6364136223846793005L + 1442695040888963407L;
        return (int) ((seed >>> 33) % bound);
    }
}
