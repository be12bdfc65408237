import java.util.Arrays;
import java.util.List;
import java.util.Random;
import java.util.Set;
import java.util.TreeSet;

/** Long runs of calls, ordinary and wrong ones, each answer compared with the Model's. Seeds are fixed. */
public final class ModelTest {
    private static final int RUNS = 4000;
    private static final int MOST_CALLS = 512;
    private static final int[] ODD = {-2, -1, 2, 3, 5, 6, 10, 51, 1024, Integer.MIN_VALUE, Integer.MAX_VALUE};
    private static final String[] LINK = {"wish", "allow", "setMagic", "open", "open", "open", "open", "close", "deliver",
        "deliver", "deliver", "deliver", "deliver", "deliver", "deliver", "deliver", "lose", "lose", "loop", "pass", "pass",
        "stateOf", "stateOf", "asked", "requests", "isLooped", "underWay", "missed"};
    /** Ends are seldom closed here, so that they come to their tenth request in other states than ASKING too. */
    private static final String[] PATIENT = {"open", "open", "deliver", "deliver", "deliver", "deliver", "deliver",
        "deliver", "deliver", "deliver", "deliver", "deliver", "lose", "lose", "loop", "pass", "pass", "setMagic"};
    private static final String[] BUNDLE = {"send", "send", "come", "come", "come", "come", "come", "drop", "given",
        "givenAt", "next"};
    private static final List<String> DUE_TO_BE_SEEN = List.of("CLOSED", "ASKING", "HEARD", "ANSWERED", "OPEN", "gave up",
        "gave up when OPEN", "looped", "looped REQUEST", "looped ACK", "looped HINT", "looped REJECT", "looped STOP",
        "ACK counts", "HINT counts", "REJECT counts", "timer of ASKING", "timer of HEARD", "timer of ANSWERED",
        "REQUEST to CLOSED", "REQUEST to ASKING", "REQUEST to HEARD", "REQUEST to ANSWERED", "REQUEST to OPEN",
        "REJECT to HEARD", "HINT to OPEN", "STOP to OPEN", "60 packets", "step 1", "step 2, lost",
        "step 2, not the first", "step 3", "step 3 waits");

    public static void main(String[] args) {
        Check check = new Check("ModelTest");
        Set<String> seen = new TreeSet<>();
        for (int run = 0; run < RUNS && !check.hasWrong(); run++) {
            Random random = new Random(run);
            Model model = new Model();
            OptionLine x = new OptionLine();
            if (run % 4 == 0) {
                lookedAt(check, run, random, x, model);
            } else {
                mixed(check, run, random, x, model);
            }
            seen.addAll(model.seen);
        }
        for (String due : DUE_TO_BE_SEEN) {
            check.holds("the runs have come to: " + due, seen.contains(due));
        }
        check.end();
    }

    private static void mixed(Check check, int run, Random random, OptionLine x, Model model) {
        String[][] names = {run % 4 == 2 ? PATIENT : LINK, BUNDLE};
        int part = random.nextInt(3);
        settings(check, run, random, x, model);
        int made = 24;
        for (; made < MOST_CALLS; made++) {
            String[] calls = names[part == 2 ? random.nextInt(2) : part];
            String name = calls[random.nextInt(calls.length)];
            same(check, run, x, model, name, arguments(random, name));
        }
    }

    /** Few calls, but all that the object tells is looked at behind each. */
    private static void lookedAt(Check check, int run, Random random, OptionLine x, Model model) {
        settings(check, run, random, x, model);
        for (int made = 24; made + 26 <= MOST_CALLS; made += 26) {
            String[] calls = random.nextInt(3) == 0 ? BUNDLE : LINK;
            String name = calls[random.nextInt(calls.length)];
            same(check, run, x, model, name, arguments(random, name));
            for (int end = 0; end < 2; end++) {
                for (String look : new String[] {"stateOf", "requests", "isLooped", "underWay", "missed"}) {
                    same(check, run, x, model, look, new int[] {end});
                }
                for (int option = 0; option < 6; option++) {
                    same(check, run, x, model, "asked", new int[] {end, option});
                }
            }
            same(check, run, x, model, "given", new int[0]);
            same(check, run, x, model, "next", new int[0]);
        }
    }

    /** Half of the runs are friendly: nearly all that is wished is allowed, so that ends come to OPEN. */
    private static void settings(Check check, int run, Random random, OptionLine x, Model model) {
        int friendly = run % 2 == 0 ? 9 : 4;
        for (int end = 0; end < 2; end++) {
            for (int option = 0; option < 6; option++) {
                int value = random.nextInt(3) == 0 ? random.nextInt(10) : -1;
                int set = random.nextInt(10) < friendly ? 1023 : random.nextInt(3) * random.nextInt(512);
                same(check, run, x, model, "wish", new int[] {end, option, value});
                same(check, run, x, model, "allow", new int[] {end, option, set});
            }
        }
    }

    private static void same(Check check, int run, OptionLine x, Model model, String name, int[] a) {
        String due = model.call(name, a);
        String got = Check.outcome(() -> Script.call(x, name, a));
        check.sameOutcome("run " + run + ": " + name + Arrays.toString(a), got, due);
    }

    private static int[] arguments(Random random, String name) {
        switch (name) {
            case "wish": return new int[] {end(random), option(random), odd(random, random.nextInt(11) - 1)};
            case "allow": return new int[] {end(random), option(random), odd(random, random.nextInt(1024))};
            case "setMagic": return new int[] {end(random), odd(random, 1 + random.nextInt(6))};
            case "asked": return new int[] {end(random), option(random)};
            case "pass": return new int[] {odd(random, random.nextInt(8) == 0 ? 1 + random.nextInt(50) : 1 + random.nextInt(3))};
            case "send": return new int[] {odd(random, 1 + random.nextInt(4))};
            case "come": case "drop": return new int[] {odd(random, random.nextInt(3))};
            case "givenAt": return new int[] {odd(random, random.nextInt(20))};
            case "given": case "next": return new int[0];
            default: return new int[] {end(random)};
        }
    }

    private static int end(Random random) {
        return odd(random, random.nextInt(2));
    }

    private static int option(Random random) {
        return odd(random, random.nextInt(6));
    }

    private static int odd(Random random, int ordinary) {
        return random.nextInt(40) == 0 ? ODD[random.nextInt(ODD.length)] : ordinary;
    }
}
