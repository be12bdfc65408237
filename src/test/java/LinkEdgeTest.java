/** The edges of the document's sentences on the link; each label quotes one. */
public final class LinkEdgeTest {
    private static final String[] ANSWERS = {"ACK", "HINT", "REJECT"};

    public static void main(String[] args) {
        Check check = new Check("LinkEdgeTest");
        statesAreReached(check);
        opening(check);
        closing(check);
        firstInFirstOut(check);
        noFrame(check);
        ids(check);
        timersBeginAnew(check);
        tenRequestsAndTheTick(check);
        tenRequestsAndAnAnswer(check);
        tenRequestsAndARequest(check);
        tenRequestsSinceItWasOpened(check);
        ownMagicNumber(check);
        closedEndsSendStop(check);
        answersByState(check);
        countsOnlyIfAskingOrAnswered(check);
        countsOnlyWithTheLastId(check);
        toldOptions(check);
        stops(check);
        check.end();
    }

    private static void statesAreReached(Check check) {
        for (int requests = 1; requests <= 10; requests++) {
            for (String state : Ends.ALL) {
                Script.run(check, "the run to " + state, Ends.in(state, requests), "stateOf 0 = " + state,
                        "requests 0 = " + requests + "; underWay 0 = 0; underWay 1 = 0; close 1; open 1 = 1");
            }
        }
    }

    private static void opening(Check check) {
        for (String state : Ends.NOT_CLOSED) {
            Script.run(check, "'if it is not CLOSED': open while " + state, "wish 0 3 1;", "allow 1 3 1023;", Ends.in(state),
                    "wish 0 3 2; open 0 = STATE; stateOf 0 = " + state + "; asked 0 3 = 1; requests 0 = 1; underWay 0 = 0",
                    "close 0; lose 0; open 0 = 1; asked 0 3 = 2");
        }
        Script.run(check, "'if it is not CLOSED': open while CLOSED", Ends.in("CLOSED"), "open 0 = 1; stateOf 0 = ASKING");
        Script.run(check, "'what it asks for is laid by its wishes': no wish is left", "wish 0 0 4; wish 0 5 4; open 0; close 0",
                "wish 0 0 NONE; wish 0 5 0; open 0; asked 0 0 = NONE; asked 0 5 = 0");
        Script.run(check, "'what it asks for is laid by its wishes': told values are forgotten", "wish 0 1 4; allow 1 1 1",
                "open 1; lose 1; open 0; deliver 0; deliver 1 = HINT; asked 0 1 = 0; close 0; asked 0 1 = 0; open 0",
                "asked 0 1 = 4; wish 0 1 NONE = 4");
    }

    private static void closing(Check check) {
        for (String state : Ends.NOT_CLOSED) {
            Script.run(check, "'its state before': close while " + state, Ends.in(state), "close 0 = " + state,
                    "stateOf 0 = CLOSED; underWay 0 = 1; lose 0 = STOP; close 0 = STATE; underWay 0 = 0");
        }
        String what = "'if it is CLOSED': ";
        Script.run(check, what + "a new end", "close 0 = STATE; close 1 = STATE; underWay 0 = 0; underWay 1 = 0");
        Script.run(check, what + "by a STOP", "open 0; open 1; close 1; lose 1; deliver 1 = STOP; close 0 = STATE; underWay 0 = 1");
        Script.run(check, what + "by giving up", "open 0; pass 30; close 0 = STATE; underWay 0 = 10");
    }

    private static void firstInFirstOut(Check check) {
        String what = "'first in, first out': ";
        Script.run(check, what + "by all three ways", "open 0; close 0; open 0; close 0; open 0; underWay 0 = 5",
                "lose 0 = REQUEST; deliver 0 = STOP; underWay 0 = 3; loop 0 = REQUEST; isLooped 0 = yes; lose 0 = STOP",
                "lose 0 = REQUEST; underWay 0 = 0; lose 0 = STATE");
        OptionLine x = new OptionLine();
        for (int round = 0; round < 85; round++) {
            Script.goOn(check, x, what + "emptied and filled again", "open 1 = " + round + "; close 1 = ASKING",
                    "lose 1 = REQUEST; underWay 1 = 1; lose 1 = STOP; lose 1 = STATE");
        }
        mostFrames(check);
    }

    /** 511 calls that leave as many frames as an end can have then, and one more. */
    private static void mostFrames(Check check) {
        OptionLine x = new OptionLine();
        for (int round = 0; round < 255; round++) {
            check.same("'its last one (0 for the first ever)': " + round, x.open(0), 10 * round);
            check.same("'how many requests are sent in them'", x.pass(50), 9);
        }
        check.same("'how many frames of an end are under way': all of 255 openings", x.underWay(0), 2550);
        check.same("'at most 512 calls': the last of them", x.deliver(0), OptionLine.REQUEST);
    }

    private static void noFrame(Check check) {
        for (String call : new String[] {"deliver ", "lose ", "loop "}) {
            String what = "'if there is none': " + call;
            Script.run(check, what + "a new link", call + "0 = STATE; " + call + "1 = STATE; missed 0 = 0; missed 1 = 0");
            Script.run(check, what + "the other end's frames", "open 0; " + call + "1 = STATE; underWay 0 = 1; missed 1 = 0");
            Script.run(check, what + "behind the last one", "open 0; lose 0; " + call + "0 = STATE; missed 0 = 1; stateOf 0 = ASKING");
            Script.run(check, what + "changes no timer", "open 0; lose 0; pass 2; " + call + "0 = STATE; pass 1 = 1");
        }
        Script.run(check, "'lost or looped': a delivered frame is not missed", "open 0; deliver 0; missed 0 = 0; missed 1 = 0",
                "open 1; loop 1 = STOP; missed 1 = 1; missed 0 = 0; lose 1 = REQUEST; missed 1 = 2; missed 0 = 0");
    }

    private static void ids(Check check) {
        String what = "'an id that is 1 greater than that of its last one (0 for the first ever)': ";
        Script.run(check, what + "of each end its own", "open 0 = 0; pass 50; open 1 = 0; open 0 = 10; close 1; open 1 = 1");
        Script.run(check, what + "an asking that is not done has none", "open 0 = 0; pass 30; stateOf 0 = CLOSED; open 0 = 10");
        Script.run(check, what + "a STOP and an answer have none", "open 0 = 0; open 1; deliver 1; close 0; open 0 = 1");
        Script.run(check, what + "a refused open has none", "open 0 = 0; open 0 = STATE; open 2 = INDEX; close 0; open 0 = 1");
    }

    private static void timersBeginAnew(Check check) {
        String what = "'its timer is 3 then': ";
        Script.run(check, what + "by open", "open 0; pass 2 = 0; pass 1 = 1");
        Script.run(check, what + "by opening again", "open 0; pass 2; close 0; pass 1 = 0; open 0; pass 2 = 0; pass 1 = 1");
        Script.run(check, what + "by the tick", "open 0; pass 3 = 1; pass 2 = 0; pass 1 = 1; pass 2 = 0; pass 1 = 1");
        for (String answer : new String[] {"HINT", "REJECT"}) {
            Script.run(check, what + "by a " + answer, "wish 0 0 5; allow 1 0 " + (answer.equals("HINT") ? 2 : 0), "open 1; lose 1",
                    "open 0; deliver 0; close 1; pass 2 = 0; deliver 1 = " + answer + "; pass 2 = 0; pass 1 = 1; requests 0 = 3");
        }
        Script.run(check, what + "by a request to OPEN", Ends.in("OPEN"), Ends.requestFor("ACK"), "close 1; pass 50 = 0",
                "deliver 1; stateOf 0 = ANSWERED; pass 2 = 0; pass 1 = 1");
        Script.run(check, what + "not by an ACK that comes", "open 0; open 1; lose 1; deliver 0; close 1; pass 2 = 0",
                "deliver 1 = ACK; stateOf 0 = HEARD; pass 1 = 1; stateOf 0 = ASKING");
        Script.run(check, what + "not by a request that comes", "open 0; open 1; close 1; pass 2 = 0; deliver 1 = REQUEST",
                "stateOf 0 = ANSWERED; pass 1 = 1");
        Script.run(check, what + "not by an answer that does not count", "open 0; open 1; deliver 0; lose 1; close 1; pass 3 = 1",
                "pass 2 = 0; deliver 1 = ACK; stateOf 0 = ASKING; pass 1 = 1");
        for (String state : new String[] {"CLOSED", "OPEN"}) {
            Script.run(check, "'ASKING, HEARD or ANSWERED': no timer while " + state, Ends.in(state), "close 1; pass 50 = 0",
                    "stateOf 0 = " + state + "; underWay 0 = 0");
        }
        Script.run(check, "'1 to 50': the greatest number of ticks", "open 0; pass 50 = 9; stateOf 0 = CLOSED; open 0; open 1",
                "pass 50 = 18; pass 50 = 0");
        Script.run(check, "'1 to 50': the least number of ticks", "open 0; pass 1 = 0; pass 1 = 0; pass 1 = 1; pass 1 = 0");
        for (String bad : new String[] {"0", "51", "-1", "MIN", "MAX"}) {
            Script.run(check, "'1 to 50': not " + bad, "pass " + bad + " = ARGUMENT; open 0; pass 2; pass " + bad + " = ARGUMENT",
                    "underWay 0 = 1; pass 1 = 1");
        }
    }

    private static void tenRequestsAndTheTick(Check check) {
        for (String state : new String[] {"ASKING", "HEARD", "ANSWERED"}) {
            String what = "'has sent 10 requests since it was opened is CLOSED instead of asking': the tick while " + state;
            String behind = state.equals("HEARD") ? "ASKING" : state;
            Script.run(check, what + ", 9 sent", Ends.in(state, 9), "pass 2 = 0; stateOf 0 = " + state + "; pass 1 = 2",
                    "stateOf 0 = " + behind + "; requests 0 = 10; underWay 0 = 1; lose 0 = REQUEST");
            Script.run(check, what + ", 10 sent", Ends.in(state, 10), "pass 2 = 0; stateOf 0 = " + state + "; pass 1 = 1",
                    "stateOf 0 = CLOSED; requests 0 = 10; underWay 0 = 0; underWay 1 = 1; pass 50 = 8; underWay 0 = 0");
        }
    }

    private static void tenRequestsAndAnAnswer(Check check) {
        for (String answer : new String[] {"HINT", "REJECT"}) {
            String wish = "wish 0 0 5; allow 1 0 " + (answer.equals("HINT") ? 2 : 0);
            String told = "asked 0 0 = " + (answer.equals("HINT") ? "1" : "NONE");
            String what = "'has sent 10 requests since it was opened is CLOSED instead of asking': " + answer;
            Script.run(check, what + " while ASKING, 9 sent", wish, Ends.asking(9), "open 1; lose 1; deliver 0",
                    "deliver 1 = " + answer + "; stateOf 0 = ASKING; requests 0 = 10; underWay 0 = 1", told);
            Script.run(check, what + " while ASKING, 10 sent", wish, Ends.asking(10), "open 1; lose 1; deliver 0",
                    "deliver 1 = " + answer + "; stateOf 0 = CLOSED; requests 0 = 10; underWay 0 = 0", told);
            Script.run(check, what + " while ANSWERED, 9 sent", wish, Ends.asking(9), "open 1; deliver 1; deliver 0; lose 0 = ACK",
                    "deliver 1 = " + answer + "; stateOf 0 = ANSWERED; requests 0 = 10; underWay 0 = 1", told);
            Script.run(check, what + " while ANSWERED, 10 sent", wish, Ends.asking(10), "open 1; deliver 1; deliver 0; lose 0 = ACK",
                    "deliver 1 = " + answer + "; stateOf 0 = CLOSED; requests 0 = 10; underWay 0 = 0", told);
        }
    }

    private static void tenRequestsAndARequest(Check check) {
        for (String answer : ANSWERS) {
            String what = "'or CLOSED by that: then it does nothing more': a request for " + answer;
            Script.run(check, what + ", 9 sent", Ends.in("OPEN", 9), Ends.requestFor(answer), "deliver 1 = REQUEST",
                    "stateOf 0 = " + (answer.equals("ACK") ? "ANSWERED" : "ASKING") + "; requests 0 = 10; underWay 0 = 2",
                    "lose 0 = REQUEST; lose 0 = " + answer);
            Script.run(check, what + ", 10 sent", Ends.in("OPEN", 10), Ends.requestFor(answer), "deliver 1 = REQUEST",
                    "stateOf 0 = CLOSED; requests 0 = 10; underWay 0 = 0; isLooped 0 = no; lose 0 = STATE");
            // An end that is not OPEN does not ask by a request, and so is not closed by it.
            Script.run(check, what + " while HEARD, 10 sent", Ends.in("HEARD", 10), Ends.requestFor(answer), "deliver 1 = REQUEST",
                    "stateOf 0 = " + (answer.equals("ACK") ? "OPEN" : "HEARD") + "; underWay 0 = 1; lose 0 = " + answer);
        }
        Script.run(check, "'and nothing else': a looped request does not close an OPEN end", Ends.in("OPEN", 10), "setMagic 1 1",
                Ends.requestFor("ACK"), "deliver 1; isLooped 0 = yes; stateOf 0 = OPEN");
    }

    private static void tenRequestsSinceItWasOpened(Check check) {
        String what = "'since it was opened': ";
        Script.run(check, what + "none was sent", "requests 0 = 0; requests 1 = 0; open 0; requests 0 = 1; requests 1 = 0");
        Script.run(check, what + "ten more behind the next opening", "open 0; pass 30; open 0 = 10; requests 0 = 1; pass 27 = 9",
                "stateOf 0 = ASKING; requests 0 = 10; pass 3 = 0; stateOf 0 = CLOSED; requests 0 = 10; underWay 0 = 20");
        Script.run(check, what + "closed before the tenth", "open 0; pass 24; requests 0 = 9; close 0; requests 0 = 9; open 0 = 9",
                "pass 27 = 9; requests 0 = 10; stateOf 0 = ASKING");
        Script.run(check, what + "the other end's do not count", "open 0; pass 15; open 1; pass 12 = 8; requests 0 = 10; requests 1 = 5",
                "pass 3 = 1; stateOf 0 = CLOSED; stateOf 1 = ASKING; pass 12 = 4; stateOf 1 = ASKING; pass 3 = 0; stateOf 1 = CLOSED");
    }

    private static void ownMagicNumber(Check check) {
        for (String state : Ends.ALL) {
            for (String answer : ANSWERS) {
                String what = "'tells that the link is looped, and nothing else': " + state + ", a request for " + answer;
                boolean rests = state.equals("CLOSED") || state.equals("OPEN");
                Script.run(check, what, Ends.in(state), "isLooped 0 = no; setMagic 1 1", Ends.requestFor(answer),
                        "pass 1; deliver 1 = REQUEST; isLooped 0 = yes; stateOf 0 = " + state,
                        "underWay 0 = 0; underWay 1 = 0; requests 0 = 1; pass 2 = " + (rests ? 1 : 2) + "; isLooped 0 = yes");
            }
        }
        String what = "'that the end itself has now': ";
        Script.run(check, what + "changed behind the sending", "setMagic 1 1; open 1; setMagic 1 9; deliver 1; isLooped 0 = yes");
        Script.run(check, what + "changed before the coming", "open 1; setMagic 0 2; deliver 1; isLooped 0 = yes");
        Script.run(check, what + "changed away before the coming", "setMagic 1 1; open 1; setMagic 0 2; deliver 1; isLooped 0 = no");
        Script.run(check, what + "changed behind the coming", "setMagic 1 1; open 1; deliver 1; setMagic 0 2; isLooped 0 = yes");
        Script.run(check, "'by the last request that came to it': a lost one does not tell", "open 0; loop 0; open 1; lose 1",
                "isLooped 0 = yes; isLooped 1 = no; pass 3; deliver 1; isLooped 0 = no; loop 0; isLooped 0 = yes");
        Script.run(check, "'by the last request that came to it': an answer does not tell", "open 0; loop 0; pass 3; open 1; lose 1",
                "deliver 0; deliver 1 = ACK; isLooped 0 = yes; isLooped 1 = no; close 1; deliver 1 = STOP; isLooped 0 = yes");
    }

    private static void closedEndsSendStop(Check check) {
        String what = "'then a CLOSED end sends STOP': ";
        String stop = "deliver 1 = REQUEST; stateOf 0 = CLOSED; requests 0 = %; lose 0 = STOP; underWay 0 = 0; isLooped 0 = no";
        Script.run(check, what + "never opened", "open 1", stop.replace("%", "0"));
        Script.run(check, what + "closed by close", Ends.in("CLOSED"), Ends.requestFor("ACK"), stop.replace("%", "1"));
        Script.run(check, what + "closed by STOP", Ends.in("OPEN"), "close 1; deliver 1; open 1", stop.replace("%", "1"));
        Script.run(check, what + "closed by giving up", Ends.in("ASKING", 10), "pass 3; lose 1", Ends.requestFor("ACK"),
                stop.replace("%", "10"));
        Script.run(check, what + "to options that it does not know too", Ends.in("CLOSED"), Ends.requestFor("REJECT"),
                stop.replace("%", "1"));
    }

    private static void answersByState(Check check) {
        String[][] behind = {
            {"ASKING", "ANSWERED", "ASKING"}, {"HEARD", "OPEN", "HEARD"}, {"ANSWERED", "ANSWERED", "ASKING"},
            {"OPEN", "ANSWERED", "ASKING"},
        };
        for (String[] row : behind) {
            for (String answer : ANSWERS) {
                String what = "'with REJECT and HINT ASKING if it is ANSWERED', and the rest of it: " + answer + " while " + row[0];
                boolean asks = row[0].equals("OPEN");
                Script.run(check, what, Ends.in(row[0]), Ends.requestFor(answer), "deliver 1 = REQUEST",
                        "stateOf 0 = " + (answer.equals("ACK") ? row[1] : row[2]) + "; requests 0 = " + (asks ? 2 : 1),
                        asks ? "underWay 0 = 2; lose 0 = REQUEST" : "underWay 0 = 1", "lose 0 = " + answer);
            }
        }
    }

    /** The end 0 gets its own answer back: it bears the id 0 of the end 1's request, which is its own last id too. */
    private static void countsOnlyIfAskingOrAnswered(Check check) {
        String wish = "wish 0 4 7; allow 1 4 1023;";
        for (String answer : new String[] {"HINT", "REJECT"}) {
            String what = "'count only if the end is ASKING or ANSWERED': " + answer + " to ";
            String begin = wish + "wish 1 4 5; allow 0 4 " + (answer.equals("HINT") ? 64 : 0) + ";"
                    + "open 0; open 1; deliver 0; deliver 1; stateOf 0 = ASKING; close 1; wish 1 4 NONE; open 1; underWay 0 = 1;";
            String counts = "loop 0 = " + answer + "; asked 0 4 = " + (answer.equals("HINT") ? "6" : "NONE") + "; requests 0 = 2;";
            String idle = "loop 0 = " + answer + "; asked 0 4 = 7; requests 0 = 1;";
            Script.run(check, what + "ASKING", begin, counts, "stateOf 0 = ASKING; underWay 0 = 1");
            Script.run(check, what + "HEARD", begin, "deliver 1 = ACK; stateOf 0 = HEARD", idle, "stateOf 0 = HEARD; underWay 0 = 0");
            Script.run(check, what + "ANSWERED", begin, "lose 1; lose 1; deliver 1; stateOf 0 = ANSWERED", counts,
                    "stateOf 0 = ANSWERED; underWay 0 = 2");
            Script.run(check, what + "OPEN", begin, "deliver 1 = ACK; lose 1; deliver 1; stateOf 0 = OPEN", idle,
                    "stateOf 0 = OPEN; underWay 0 = 1");
            Script.run(check, what + "CLOSED", begin, "close 0", idle, "stateOf 0 = CLOSED; underWay 0 = 1; lose 0 = STOP");
        }
        String what = "'count only if the end is ASKING or ANSWERED': ACK to ";
        String begin = "wish 1 4 NONE; open 0; open 1; deliver 1; stateOf 0 = ANSWERED; close 1; wish 1 4 5; open 1; deliver 0;";
        String refused = begin + "lose 1; deliver 1 = REQUEST; stateOf 0 = ASKING;";
        Script.run(check, what + "ANSWERED", begin, "loop 0 = ACK; stateOf 0 = OPEN; requests 0 = 1");
        Script.run(check, what + "ASKING", refused, "loop 0 = ACK; stateOf 0 = HEARD; requests 0 = 1");
        Script.run(check, what + "HEARD", refused, "deliver 1 = ACK; stateOf 0 = HEARD; loop 0 = ACK; stateOf 0 = HEARD");
        Script.run(check, what + "OPEN", "open 0; open 1; deliver 1; deliver 0; deliver 1 = ACK; stateOf 0 = OPEN",
                "loop 0 = ACK; stateOf 0 = OPEN; underWay 0 = 0");
        Script.run(check, what + "CLOSED", begin, "close 0; loop 0 = ACK; stateOf 0 = CLOSED; underWay 0 = 1");
    }

    private static void countsOnlyWithTheLastId(Check check) {
        for (String answer : ANSWERS) {
            String what = "'the id is that of its last request': " + answer;
            String settings = "wish 0 4 7;" + Ends.requestFor(answer).replace("close 1; lose 1; open 1;", "");
            String idle = "loop 0 = " + answer + "; asked 0 4 = 7; requests 0 = ";
            String state = "stateOf 0 = " + (answer.equals("ACK") ? "ANSWERED" : "ASKING");
            Script.run(check, what + " with the id before", settings, "open 0; lose 0; open 1; deliver 1; pass 3 = 2",
                    idle + 2, state);
            Script.run(check, what + " with the id behind", settings, "open 1; lose 1; pass 3; open 0 = 0; lose 0; deliver 1", idle + 1,
                    state);
            Script.run(check, what + " with the id, behind an opening too", settings, "open 1; lose 1; pass 3; open 0; lose 0; close 0",
                    "lose 0; open 0 = 1; lose 0; deliver 1; loop 0 = " + answer,
                    "stateOf 0 = " + (answer.equals("ACK") ? "OPEN" : "ASKING") + "; requests 0 = " + (answer.equals("ACK") ? 1 : 2));
        }
    }

    private static void toldOptions(Check check) {
        String all = "";
        String rejected = "";
        String hinted = "";
        String sets = "";
        for (int option = 0; option < 6; option++) {
            all += "wish 0 " + option + " " + (9 - option) + "; ";
            rejected += "asked 0 " + option + " = NONE; ";
            sets += "allow 1 " + option + " " + (1 << option) + "; ";
            hinted += "asked 0 " + option + " = " + option + "; ";
        }
        Script.run(check, "'with REJECT they become NONE': all six", all, "open 1; lose 1; open 0; deliver 0; deliver 1 = REJECT",
                rejected, "requests 0 = 2; deliver 0 = REQUEST; deliver 1 = ACK; stateOf 0 = HEARD");
        Script.run(check, "'become the values told': all six", all, sets, "open 1; lose 1; open 0; deliver 0; deliver 1 = HINT",
                hinted, "requests 0 = 2; deliver 0 = REQUEST; deliver 1 = ACK; stateOf 0 = HEARD");
        Script.run(check, "'options that are NONE left out': none is asked for", "open 1; lose 1; open 0; deliver 0; deliver 1 = ACK");
        for (int option = 0; option < 6; option += 5) {
            String place = option + " ";
            Script.run(check, "'also such that it does not ask for': " + option, "wish 1 " + place + "9; allow 0 " + place + "1",
                    "open 0; lose 0; open 1; deliver 1; asked 0 " + place + "= NONE; loop 0 = HINT; asked 0 " + place + "= 0",
                    "wish 0 " + place + "NONE = NONE; asked 1 " + place + "= 9");
            Script.run(check, "'with REJECT they become NONE': not asked for, " + option, "wish 1 " + place + "9; open 0; lose 0",
                    "open 1; deliver 1; loop 0 = REJECT; asked 0 " + place + "= NONE; requests 0 = 2");
            Script.run(check, "'if there are some that it does not know': one of two, " + option, "wish 0 " + place + "9",
                    "wish 0 3 9; allow 1 3 1; open 1; lose 1; open 0; deliver 0; deliver 1 = REJECT",
                    "asked 0 " + place + "= NONE; asked 0 3 = 9; deliver 0; deliver 1 = HINT; asked 0 3 = 0; asked 0 " + place + "= NONE");
        }
        Script.run(check, "'what an end asks for, or has asked for last': behind a STOP", "wish 0 2 4; open 0; deliver 0; wish 0 2 5",
                "deliver 1 = STOP; asked 0 2 = 4; open 0; asked 0 2 = 5");
        Script.run(check, "'has asked for last': behind giving up", "wish 0 2 4; open 0; pass 30; stateOf 0 = CLOSED; asked 0 2 = 4");
    }

    private static void stops(Check check) {
        for (String state : Ends.ALL) {
            Script.run(check, "'STOP: the end is CLOSED': while " + state, Ends.in(state), "close 1; deliver 1 = STOP",
                    "stateOf 0 = CLOSED; underWay 0 = 0; requests 0 = 1; pass 50 = 0; open 0 = 1");
        }
        Script.run(check, "'STOP: the end is CLOSED': its frames go on", "open 0; open 1; close 1; lose 1; deliver 1 = STOP",
                "underWay 0 = 1; deliver 0 = REQUEST; deliver 1 = STOP; underWay 0 = 0");
        Script.run(check, "'come to that end itself': a STOP", Ends.in("OPEN"), "close 0; open 0; loop 0 = STOP; stateOf 0 = CLOSED",
                "stateOf 1 = ANSWERED");
    }
}
