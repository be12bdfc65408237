/**
 * Runs of calls written as text: "open 0 = 0; deliver 0 = REQUEST; stateOf 7 = INDEX". A call without '=' is
 * made and its answer is not looked at, but it must not throw.
 */
final class Script {
    private Script() {
    }

    /** Makes the calls on a new object and answers it, for runs that go on. */
    static OptionLine run(Check check, String what, String... lines) {
        OptionLine x = new OptionLine();
        goOn(check, x, what, lines);
        return x;
    }

    static void goOn(Check check, OptionLine x, String what, String... lines) {
        int place = 0;
        for (String line : lines) {
            for (String row : line.split(";")) {
                if (!row.isBlank()) {
                    place++;
                    step(check, x, what + ", call " + place, row.trim());
                }
            }
        }
    }

    private static void step(Check check, OptionLine x, String what, String row) {
        String[] sides = row.split("=");
        String[] words = sides[0].trim().split(" +");
        int[] args = new int[words.length - 1];
        for (int i = 0; i < args.length; i++) {
            args[i] = (int) number(words[i + 1]);
        }
        String got = Check.outcome(() -> call(x, words[0], args));
        if (sides.length == 2) {
            check.sameOutcome(what + ": " + sides[0].trim(), got, due(sides[1].trim()));
        } else {
            check.holds(what + ": " + row + " does not throw", !got.startsWith("throws."));
        }
    }

    private static String due(String word) {
        switch (word) {
            case "INDEX": return "throws.IndexOutOfBoundsException";
            case "ARGUMENT": return "throws.IllegalArgumentException";
            case "STATE": return "throws.IllegalStateException";
            default: return Long.toString(number(word));
        }
    }

    private static long number(String word) {
        switch (word) {
            case "NONE": return OptionLine.NONE;
            case "REQUEST": return OptionLine.REQUEST;
            case "ACK": return OptionLine.ACK;
            case "HINT": return OptionLine.HINT;
            case "REJECT": return OptionLine.REJECT;
            case "STOP": return OptionLine.STOP;
            case "CLOSED": return OptionLine.CLOSED;
            case "ASKING": return OptionLine.ASKING;
            case "HEARD": return OptionLine.HEARD;
            case "ANSWERED": return OptionLine.ANSWERED;
            case "OPEN": return OptionLine.OPEN;
            case "MIN": return Integer.MIN_VALUE;
            case "MAX": return Integer.MAX_VALUE;
            case "no": return 0;
            case "yes": return 1;
            default: return Integer.parseInt(word);
        }
    }

    static long call(OptionLine x, String name, int[] args) {
        switch (name) {
            case "wish": return x.wish(args[0], args[1], args[2]);
            case "allow": return x.allow(args[0], args[1], args[2]);
            case "setMagic": return x.setMagic(args[0], args[1]);
            case "open": return x.open(args[0]);
            case "close": return x.close(args[0]);
            case "deliver": return x.deliver(args[0]);
            case "lose": return x.lose(args[0]);
            case "loop": return x.loop(args[0]);
            case "pass": return x.pass(args[0]);
            case "stateOf": return x.stateOf(args[0]);
            case "asked": return x.asked(args[0], args[1]);
            case "requests": return x.requests(args[0]);
            case "isLooped": return x.isLooped(args[0]) ? 1 : 0;
            case "underWay": return x.underWay(args[0]);
            case "missed": return x.missed(args[0]);
            case "send": return x.send(args[0]);
            case "come": return x.come(args[0]);
            case "drop": return x.drop(args[0]);
            case "given": return x.given();
            case "givenAt": return x.givenAt(args[0]);
            case "next": return x.next();
            default: throw new AssertionError("no call " + name);
        }
    }
}
