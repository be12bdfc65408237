import java.util.Arrays;
import java.util.Random;

/**
 * 'A call that throws an exception changes nothing': one object gets wrong calls among the others, its twin none
 * of them; all that they answer, then and later, is the same. Seeds are fixed.
 */
public final class RefusedCallsTest {
    private static final int RUNS = 600;
    private static final int MOST_CALLS = 380;
    private static final String[] CALLS = {"wish", "allow", "setMagic", "open", "close", "deliver", "lose", "loop", "pass",
        "stateOf", "asked", "requests", "isLooped", "underWay", "missed", "send", "come", "drop", "given", "givenAt", "next"};
    private static final String[] OFTEN = {"open", "deliver", "pass", "come", "send"};
    private static final int[] WRONG = {-2, -1, 2, 3, 5, 6, 10, 51, 60, 1024, Integer.MIN_VALUE, Integer.MAX_VALUE};

    public static void main(String[] args) {
        Check check = new Check("RefusedCallsTest");
        int[] refused = new int[CALLS.length];
        for (int run = 0; run < RUNS && !check.hasWrong(); run++) {
            Random random = new Random(run);
            OptionLine mixed = new OptionLine();
            OptionLine twin = new OptionLine();
            for (int made = 0; made < MOST_CALLS; made++) {
                int call = random.nextInt(3) > 0 ? random.nextInt(CALLS.length)
                        : Arrays.asList(CALLS).indexOf(OFTEN[random.nextInt(OFTEN.length)]);
                int[] arguments = arguments(random, CALLS[call]);
                if (isRefused(check, run, mixed, twin, CALLS[call], arguments)) {
                    refused[call]++;
                }
            }
            lookAtAll(check, run, mixed, twin);
        }
        for (int call = 0; call < CALLS.length; call++) {
            boolean canBe = !CALLS[call].equals("given") && !CALLS[call].equals("next");
            check.holds(CALLS[call] + " was refused", canBe == refused[call] > 0);
        }
        check.end();
    }

    private static boolean isRefused(Check check, int run, OptionLine mixed, OptionLine twin, String name, int[] arguments) {
        String got = Check.outcome(() -> Script.call(mixed, name, arguments));
        if (got.startsWith("throws.")) {
            return true;
        }
        same(check, run, got, twin, name, arguments);
        return false;
    }

    private static void same(Check check, int run, String got, OptionLine twin, String name, int... arguments) {
        String due = Check.outcome(() -> Script.call(twin, name, arguments));
        check.sameOutcome("run " + run + ": " + name + Arrays.toString(arguments), got, due);
    }

    private static void lookAtAll(Check check, int run, OptionLine mixed, OptionLine twin) {
        for (int end = 0; end < 2; end++) {
            for (String name : new String[] {"stateOf", "requests", "isLooped", "underWay", "missed", "deliver", "lose"}) {
                look(check, run, mixed, twin, name, end);
            }
            for (int option = 0; option < 6; option++) {
                look(check, run, mixed, twin, "asked", end, option);
                look(check, run, mixed, twin, "wish", end, option, 0);
                look(check, run, mixed, twin, "allow", end, option, 0);
            }
            look(check, run, mixed, twin, "setMagic", end, 0);
        }
        for (String name : new String[] {"given", "next"}) {
            look(check, run, mixed, twin, name);
        }
        look(check, run, mixed, twin, "send", 4);
        for (int line = 0; line < 3; line++) {
            look(check, run, mixed, twin, "come", line);
            look(check, run, mixed, twin, "drop", line);
        }
        for (int place = 0; place < 60; place++) {
            look(check, run, mixed, twin, "givenAt", place);
        }
    }

    private static void look(Check check, int run, OptionLine mixed, OptionLine twin, String name, int... arguments) {
        same(check, run, Check.outcome(() -> Script.call(mixed, name, arguments)), twin, name, arguments);
    }

    private static int[] arguments(Random random, String name) {
        switch (name) {
            case "wish": return new int[] {some(random, 2), some(random, 6), some(random, 10)};
            case "allow": return new int[] {some(random, 2), some(random, 6), some(random, 1024)};
            case "setMagic": return new int[] {some(random, 2), some(random, 4)};
            case "asked": return new int[] {some(random, 2), some(random, 6)};
            case "pass": return new int[] {some(random, 7)};
            case "send": return new int[] {some(random, 6)};
            case "come": case "drop": return new int[] {some(random, 3)};
            case "givenAt": return new int[] {some(random, 30)};
            case "given": case "next": return new int[0];
            default: return new int[] {some(random, 2)};
        }
    }

    private static int some(Random random, int bound) {
        return random.nextInt(6) == 0 ? WRONG[random.nextInt(WRONG.length)] : random.nextInt(bound);
    }
}
