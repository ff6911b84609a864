/** Compares answers with those that are due, prints the wrong ones and counts them. */
final class Check {
    interface Call {
        Object run();
    }

    private static int wrong = 0;
    private static int compared = 0;
    private static String about = "";

    private Check() {
    }

    /** Tells what the comparisons that follow are about; it is printed ahead of each wrong one. */
    static void about(String text) {
        about = text;
    }

    static void answers(String what, long due, long got) {
        same(what, Long.toString(due), Long.toString(got));
    }

    static void answersDouble(String what, double due, double got) {
        same(what, Double.toString(due), Double.toString(got));
    }

    /** The exception has to be of this very class: a class below it was thrown by the machine. */
    static void refuses(String what, Class<?> due, Call call) {
        same(what, "throws " + due.getName(), outcome(call));
    }

    static void holds(String what, boolean right) {
        same(what, "true", Boolean.toString(right));
    }

    static void same(String what, String due, String got) {
        compared++;
        if (!due.equals(got)) {
            wrong++;
            System.out.println(about + what + ": due is " + due + ", but it is " + got);
        }
    }

    static String outcome(Call call) {
        try {
            return String.valueOf(call.run());
        } catch (RuntimeException e) {
            return "throws " + e.getClass().getName();
        }
    }

    static int comparisons() {
        return compared;
    }

    static int wrongOnes() {
        return wrong;
    }

    static void end(String test) {
        System.out.println(test + ": " + (wrong == 0 ? "all is as due" : wrong + " things are wrong"));
        if (wrong != 0) {
            System.exit(1);
        }
    }
}
