/** Counts the answers of one test that are not as due, and ends the test with exit code 1 if there are some. */
final class Check {
    interface Call {
        long answer();
    }

    private final String name;
    private int asked = 0;
    private int wrong = 0;

    Check(String name) {
        this.name = name;
    }

    void same(String what, long got, long due) {
        asked++;
        if (got != due) {
            wrong++;
            System.out.println(name + ": " + what + " answered " + got + ", due is " + due);
        }
    }

    void holds(String what, boolean got) {
        same(what, got ? 1 : 0, 1);
    }

    void refuses(String what, Class<? extends RuntimeException> due, Call call) {
        String got = outcome(call);
        asked++;
        if (!got.equals("throws." + due.getSimpleName())) {
            wrong++;
            System.out.println(name + ": " + what + " answered " + got + ", due is throws." + due.getSimpleName());
        }
    }

    void sameOutcome(String what, String got, String due) {
        asked++;
        if (!got.equals(due)) {
            wrong++;
            System.out.println(name + ": " + what + " answered " + got + ", due is " + due);
        }
    }

    /** The exact class is told, so that an ArrayIndexOutOfBoundsException is not taken for its parent. */
    static String outcome(Call call) {
        try {
            return Long.toString(call.answer());
        } catch (RuntimeException e) {
            return "throws." + e.getClass().getSimpleName();
        }
    }

    boolean hasWrong() {
        return wrong > 0;
    }

    void end() {
        System.out.println(name + ": " + (asked - wrong) + " of " + asked + " answers are as due");
        if (wrong > 0) {
            System.exit(1);
        }
    }
}
