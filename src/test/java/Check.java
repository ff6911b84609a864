/** Compares answers with those that are due, prints the wrong ones and counts them. */
final class Check {
    interface Call {
        Object run();
    }

    private static int wrong = 0;

    private Check() {
    }

    static void answers(String what, long due, long got) {
        same(what, Long.toString(due), Long.toString(got));
    }

    static void answersDouble(String what, double due, double got) {
        same(what, Double.toString(due), Double.toString(got));
    }

    /** The exception has to be of this very class: a class below it was thrown by the machine. */
    static void refuses(String what, Class<?> due, Call call) {
        same(what, "throws " + due.getName(), outcome(call));
    }

    static void holds(String what, boolean right) {
        same(what, "true", Boolean.toString(right));
    }

    static void same(String what, String due, String got) {
        if (!due.equals(got)) {
            wrong++;
            System.out.println(what + ": due is " + due + ", but it is " + got);
        }
    }

    static String outcome(Call call) {
        try {
            return String.valueOf(call.run());
        } catch (RuntimeException e) {
            return "throws " + e.getClass().getName();
        }
    }

    static int wrongOnes() {
        return wrong;
    }

    static void end(String test) {
        System.out.println(test + ": " + (wrong == 0 ? "all is as due" : wrong + " things are wrong"));
        if (wrong != 0) {
            System.exit(1);
        }
    }
}
