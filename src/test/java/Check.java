/** Compares answers with those that are due, prints the wrong ones, and ends the test with exit code 1 if there was one. */
final class Check {
    interface Call {
        Object answer();
    }

    private final String test;
    private int made;
    private int wrong;

    Check(String test) {
        this.test = test;
    }

    void same(String call, Object due, Call made) {
        judge(call, due, outcome(made));
    }

    void refuses(String call, Class<? extends RuntimeException> due, Call made) {
        judge(call, due, outcome(made));
    }

    void judge(String call, Object due, Object got) {
        made++;
        if (!due.equals(got)) {
            wrong++;
            System.out.println(test + ": " + call + " answered " + got + ", due is " + due);
        }
    }

    void end() {
        System.out.println(test + ": " + made + " answers, " + wrong + " wrong");
        if (wrong != 0 || made == 0) {
            System.exit(1);
        }
    }

    private static Object outcome(Call call) {
        try {
            return call.answer();
        } catch (RuntimeException e) {
            return e.getClass();
        }
    }
}
