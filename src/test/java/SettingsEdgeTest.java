/** The edges of the document's sentences on ends, options, values, sets and magic numbers; each label quotes one. */
public final class SettingsEdgeTest {
    private static final String[] NO_END = {"-1", "2", "MIN", "MAX"};
    private static final String[] NO_OPTION = {"-1", "6", "MIN", "MAX"};
    private static final int MOST_CALLS = 512;

    public static void main(String[] args) {
        Check check = new Check("SettingsEdgeTest");
        lastPromisedCall(check);
        ends(check);
        options(check);
        values(check);
        sets(check);
        eachValueHasItsBit(check);
        unknownOrRefused(check);
        atFirst(check);
        magicNumbers(check);
        firstListedException(check);
        check.end();
    }

    private static void lastPromisedCall(Check check) {
        String what = "'at most 512 calls': the last of them";
        OptionLine x = new OptionLine();
        int before = 1;
        for (int call = 1; call < MOST_CALLS; call++) {
            check.same(what, x.setMagic(0, call + 1), before);
            before = call + 1;
        }
        Script.goOn(check, x, what, "setMagic 0 0 = 512");
    }

    private static void ends(Check check) {
        String what = "'the ends 0 and 1': ";
        for (String end : new String[] {"0", "1"}) {
            Script.run(check, what + end, "wish " + end + " 0 3 = NONE; allow " + end + " 0 3 = 0; open " + end + " = 0",
                    "stateOf " + end + " = ASKING; asked " + end + " 0 = 3; requests " + end + " = 1",
                    "isLooped " + end + " = no; underWay " + end + " = 1; lose " + end + " = REQUEST; missed " + end + " = 1",
                    "close " + end + " = ASKING; loop " + end + " = STOP; open " + end + "; deliver " + end + " = REQUEST");
        }
        for (String bad : NO_END) {
            OptionLine x = Script.run(check, what + bad, "open 0; open 1");
            for (String call : new String[] {"wish # 0 0", "allow # 0 0", "setMagic # 0", "open #", "close #", "deliver #",
                    "lose #", "loop #", "stateOf #", "asked # 0", "requests #", "isLooped #", "underWay #", "missed #"}) {
                Script.goOn(check, x, what + bad, call.replace("#", bad) + " = INDEX");
                Script.run(check, what + bad + " of a new object", call.replace("#", bad) + " = INDEX");
            }
            Script.goOn(check, x, what + bad + " changes nothing", "stateOf 0 = ASKING; stateOf 1 = ASKING; underWay 0 = 1",
                    "underWay 1 = 1; missed 0 = 0; missed 1 = 0; setMagic 0 0 = 1; setMagic 1 0 = 2; allow 0 0 0 = 0");
        }
    }

    private static void options(Check check) {
        String what = "'the options 0 to 5': ";
        for (String end : new String[] {"0 ", "1 "}) {
            for (String option : new String[] {"0", "5"}) {
                Script.run(check, what + option, "wish " + end + option + " 7 = NONE; allow " + end + option + " 9 = 0",
                        "open " + end + "; asked " + end + option + " = 7; wish " + end + option + " 0 = 7");
            }
            for (String bad : NO_OPTION) {
                Script.run(check, what + bad, "wish " + end + bad + " 7 = INDEX; allow " + end + bad + " 9 = INDEX",
                        "asked " + end + bad + " = INDEX; open " + end + "; asked " + end + bad + " = INDEX",
                        "asked " + end + "0 = NONE; asked " + end + "5 = NONE");
            }
        }
    }

    private static void values(Check check) {
        String what = "'a value, 0 to 9, or NONE': ";
        Script.run(check, what + "the least and the greatest", "wish 1 2 0 = NONE; wish 1 2 9 = 0; wish 1 2 NONE = 9",
                "wish 1 2 NONE = NONE; wish 1 2 0 = NONE; open 1; asked 1 2 = 0");
        for (String bad : new String[] {"-2", "10", "MIN", "MAX"}) {
            Script.run(check, what + bad, "wish 1 2 " + bad + " = ARGUMENT; wish 1 2 4 = NONE; wish 1 2 " + bad + " = ARGUMENT",
                    "open 1; asked 1 2 = 4; wish 1 2 " + bad + " = ARGUMENT; wish 1 2 5 = 4");
        }
    }

    private static void sets(Check check) {
        String what = "'0 to 1023: the set': ";
        Script.run(check, what + "the least and the greatest", "allow 0 3 0 = 0; allow 0 3 1023 = 0; allow 0 3 0 = 1023");
        for (String bad : new String[] {"-1", "1024", "MIN", "MAX"}) {
            Script.run(check, what + bad, "allow 0 3 " + bad + " = ARGUMENT; allow 0 3 6 = 0; allow 0 3 " + bad + " = ARGUMENT",
                    "allow 0 3 0 = 6");
        }
    }

    private static void eachValueHasItsBit(Check check) {
        for (int value = 0; value <= 9; value++) {
            for (int allowed = 0; allowed <= 9; allowed++) {
                String what = "'bit v for the value v': " + value + " where " + allowed + " is allowed";
                OptionLine x = Script.run(check, what, "open 1; wish 0 5 " + value + "; allow 1 5 " + (1 << allowed),
                        "open 0; lose 1; deliver 0");
                Script.goOn(check, x, what, value == allowed ? "deliver 1 = ACK; stateOf 0 = HEARD" : "deliver 1 = HINT",
                        "asked 0 5 = " + allowed);
            }
            // All but this one: the lowest of the others is told.
            Script.run(check, "'the lowest value that it allows': all but " + value, "open 1; wish 0 0 " + value,
                    "allow 1 0 " + (1023 - (1 << value)) + "; open 0; lose 1; deliver 0; deliver 1 = HINT",
                    "asked 0 0 = " + (value == 0 ? 1 : 0));
        }
    }

    private static void unknownOrRefused(Check check) {
        String what = "'with the set 0 it does not know the option': ";
        Script.run(check, what + "the set was never told", "open 1; lose 1; wish 0 2 0; open 0; deliver 0; lose 1 = REJECT");
        Script.run(check, what + "the set is 0 again", "open 1; lose 1; allow 1 2 1; allow 1 2 0; wish 0 2 0; open 0",
                "deliver 0; lose 1 = REJECT");
        Script.run(check, what + "a set that is not 0", "open 1; lose 1; allow 1 2 512; wish 0 2 0; open 0",
                "deliver 0; lose 1 = HINT");
        Script.run(check, what + "an option that is not asked for", "open 1; lose 1; open 0; deliver 0; lose 1 = ACK");
        Script.run(check, what + "its own set is not the one that counts", "open 1; lose 1; allow 0 2 1; wish 0 2 0; open 0",
                "deliver 0; lose 1 = REJECT");
    }

    private static void atFirst(Check check) {
        String what = "'at first all wishes are NONE, all sets 0': ";
        for (int end = 0; end < 2; end++) {
            for (int option = 0; option < 6; option++) {
                String place = end + " " + option;
                Script.run(check, what + place, "wish " + place + " 0 = NONE; allow " + place + " 1 = 0");
                Script.run(check, what + place, "asked " + place + " = NONE; open " + end + "; asked " + place + " = NONE");
            }
        }
        Script.run(check, "'at first 1 for the end 0, 2 for the end 1'", "setMagic 0 2 = 1; setMagic 1 1 = 2");
        Script.run(check, "'at first 1 for the end 0, 2 for the end 1': they are unlike", "open 0; deliver 0; isLooped 1 = no",
                "lose 1 = STOP; open 1; loop 1; isLooped 1 = yes; isLooped 0 = no");
    }

    private static void magicNumbers(Check check) {
        String what = "'any int': ";
        for (String number : new String[] {"MIN", "MAX", "0", "-1", "1", "65537"}) {
            Script.run(check, what + number, "setMagic 0 " + number + " = 1; setMagic 1 " + number + " = 2; open 0",
                    "deliver 0; isLooped 1 = yes; underWay 1 = 0; setMagic 0 5 = " + number);
        }
        // Alike in their low bits, or behind one another where the ints begin anew, and yet unlike.
        String[][] unlike = {{"0", "256"}, {"0", "65536"}, {"-1", "65535"}, {"0", "MIN"}, {"-1", "MAX"}, {"MAX", "MIN"},
            {"1", "-1"}, {"-1", "0"}};
        for (String[] pair : unlike) {
            Script.run(check, what + pair[0] + " is not " + pair[1], "setMagic 0 " + pair[0] + "; setMagic 1 " + pair[1],
                    "open 0; deliver 0; isLooped 1 = no; deliver 1 = STOP");
        }
    }

    private static void firstListedException(Check check) {
        String what = "'the one that is listed first is thrown': ";
        for (String bad : NO_END) {
            Script.run(check, what + "end and value", "wish " + bad + " 0 10 = INDEX; wish " + bad + " 6 -2 = INDEX",
                    "allow " + bad + " 0 1024 = INDEX; allow " + bad + " -1 -1 = INDEX; asked " + bad + " 6 = INDEX");
            Script.run(check, what + "end and state", "close " + bad + " = INDEX; deliver " + bad + " = INDEX",
                    "lose " + bad + " = INDEX; loop " + bad + " = INDEX; open 0; open 1; open " + bad + " = INDEX");
        }
        for (String bad : NO_OPTION) {
            Script.run(check, what + "option and value", "wish 0 " + bad + " 10 = INDEX; wish 1 " + bad + " -2 = INDEX",
                    "allow 0 " + bad + " 1024 = INDEX; allow 1 " + bad + " -1 = INDEX");
        }
    }
}
