/** Promises 5 to 16: what ends send and hear, and what the calls tell of them. */
public final class LinkTest {
    /** Both ends are ASKING, their requests are under way. */
    private static final String BOTH_ASK = "open 0; open 1;";
    /** Both ends are OPEN by their first requests, nothing is under way. */
    private static final String BOTH_OPEN = BOTH_ASK + "deliver 0; deliver 1; deliver 0; deliver 1;";
    /** The end 0 is HEARD with a timer of 3, the end 1 ANSWERED with one of 2; nothing is under way. */
    private static final String HEARD = "open 1; pass 1; open 0; deliver 0; lose 1; deliver 1;";

    public static void main(String[] args) {
        Check check = new Check("LinkTest");
        noSuchEndOrOption(check);
        open(check);
        close(check);
        closedEnds(check);
        acknowledgements(check);
        rejects(check);
        hints(check);
        refusalsAndStates(check);
        oldAnswers(check);
        answersThatDoNotCount(check);
        openEndsAskAnew(check);
        givingUp(check);
        losing(check);
        looping(check);
        loopedAnswers(check);
        looped(check);
        pass(check);
        timers(check);
        magicOfEachRequest(check);
        manyFrames(check);
        moreFramesThanAreKept(check);
        check.end();
    }

    private static void noSuchEndOrOption(Check check) {
        for (String bad : new String[] {"-1", "2", "MIN", "MAX"}) {
            OptionLine x = Script.run(check, "no end " + bad, "open 0");
            for (String name : new String[] {"open", "close", "deliver", "lose", "loop", "stateOf", "requests",
                    "isLooped", "underWay", "missed"}) {
                Script.goOn(check, x, "no end", name + " " + bad + " = INDEX");
            }
            Script.goOn(check, x, "no end changes nothing", "asked " + bad + " 0 = INDEX; underWay 0 = 1;"
                    + "stateOf 0 = ASKING; stateOf 1 = CLOSED; missed 0 = 0; underWay 1 = 0");
        }
        for (String bad : new String[] {"-1", "6", "MIN", "MAX"}) {
            Script.run(check, "12: no option", "asked 0 " + bad + " = INDEX", "asked 1 " + bad + " = INDEX");
        }
    }

    private static void open(Check check) {
        Script.run(check, "5: open", "open 0 = 0; stateOf 0 = ASKING; requests 0 = 1; underWay 0 = 1",
                "open 0 = STATE; requests 0 = 1; underWay 0 = 1",
                "stateOf 1 = CLOSED; open 1 = 0; underWay 1 = 1");
        Script.run(check, "5: ids go on, 13: requests begin anew", "open 0 = 0; pass 3 = 1; requests 0 = 2",
                "close 0; requests 0 = 2; open 0 = 2; requests 0 = 1; stateOf 0 = ASKING; underWay 0 = 4");
        Script.run(check, "5: not while HEARD or ANSWERED", HEARD, "open 0 = STATE; open 1 = STATE");
        Script.run(check, "5: not while OPEN", BOTH_OPEN, "open 0 = STATE; open 1 = STATE; underWay 0 = 0");
        Script.run(check, "5, 12: wishes are laid when it is opened", "wish 0 1 4; wish 0 5 0; asked 0 1 = NONE",
                "open 0; asked 0 1 = 4; asked 0 5 = 0; asked 0 0 = NONE; asked 1 1 = NONE",
                "wish 0 1 6; asked 0 1 = 4; close 0; asked 0 1 = 4; open 0; asked 0 1 = 6");
    }

    private static void close(Check check) {
        Script.run(check, "6: CLOSED", "close 0 = STATE; underWay 0 = 0; close 1 = STATE");
        Script.run(check, "6: ASKING", "open 0; close 0 = ASKING; stateOf 0 = CLOSED; close 0 = STATE",
                "underWay 0 = 2; deliver 0 = REQUEST; deliver 0 = STOP; underWay 0 = 0");
        Script.run(check, "6: HEARD and ANSWERED", HEARD, "close 0 = HEARD; close 1 = ANSWERED",
                "deliver 0 = STOP; deliver 1 = STOP; stateOf 0 = CLOSED");
        Script.run(check, "6: OPEN", BOTH_OPEN, "close 1 = OPEN; stateOf 0 = OPEN; deliver 1 = STOP",
                "stateOf 0 = CLOSED; underWay 0 = 0");
    }

    private static void closedEnds(Check check) {
        Script.run(check, "7: a CLOSED end sends STOP", "deliver 0 = STATE; open 0; deliver 0 = REQUEST",
                "underWay 1 = 1; stateOf 1 = CLOSED; deliver 1 = STOP; stateOf 0 = CLOSED; deliver 1 = STATE",
                "underWay 0 = 0; missed 0 = 0; missed 1 = 0; requests 1 = 0");
        Script.run(check, "7: STOP closes ASKING, HEARD, ANSWERED", "open 1; close 1; lose 1; open 0; deliver 1 = STOP",
                "stateOf 0 = CLOSED");
        Script.run(check, "7: STOP to a CLOSED end", "open 0; close 0; lose 0; deliver 0 = STOP; stateOf 1 = CLOSED",
                "underWay 1 = 0");
        Script.run(check, "7: STOP to HEARD", HEARD, "close 1; deliver 1 = STOP; stateOf 0 = CLOSED");
        Script.run(check, "7: STOP to ANSWERED", HEARD, "close 0; deliver 0 = STOP; stateOf 1 = CLOSED");
    }

    private static void acknowledgements(Check check) {
        Script.run(check, "7: both agree", "wish 0 3 4; allow 1 3 16; wish 1 0 9; allow 0 0 1023", BOTH_ASK,
                "deliver 0 = REQUEST; stateOf 1 = ANSWERED; stateOf 0 = ASKING; underWay 1 = 2",
                "deliver 1 = REQUEST; stateOf 0 = ANSWERED; deliver 0 = ACK; stateOf 1 = OPEN",
                "deliver 1 = ACK; stateOf 0 = OPEN; asked 0 3 = 4; asked 1 0 = 9; underWay 0 = 0; underWay 1 = 0");
        Script.run(check, "7: HEARD, then OPEN by its own ACK", HEARD, "stateOf 0 = HEARD; stateOf 1 = ANSWERED",
                "pass 2 = 1; stateOf 1 = ANSWERED; deliver 1 = REQUEST; stateOf 0 = OPEN; deliver 0 = ACK; stateOf 1 = OPEN");
        Script.run(check, "7: a second request leaves ANSWERED", BOTH_ASK,
                "deliver 0; pass 3 = 2; deliver 0 = REQUEST; stateOf 1 = ANSWERED; underWay 1 = 4",
                "lose 1 = REQUEST; lose 1 = ACK; lose 1 = REQUEST; deliver 1 = ACK; stateOf 0 = HEARD");
    }

    private static void rejects(Check check) {
        Script.run(check, "7: REJECT", "wish 0 0 0; wish 0 1 5; wish 0 5 9; allow 1 1 32", BOTH_ASK,
                "deliver 0; stateOf 1 = ASKING; lose 1 = REQUEST; deliver 1 = REJECT",
                "asked 0 0 = NONE; asked 0 5 = NONE; asked 0 1 = 5; stateOf 0 = ASKING; requests 0 = 2; underWay 0 = 1",
                "deliver 0 = REQUEST; stateOf 1 = ANSWERED; deliver 1 = ACK; stateOf 0 = HEARD; wish 0 0 1 = 0");
        Script.run(check, "7: REJECT goes before HINT, and tells only what is not known",
                "wish 0 0 3; wish 0 4 3; allow 1 0 4", BOTH_ASK,
                "deliver 0; lose 1; deliver 1 = REJECT; asked 0 0 = 3; asked 0 4 = NONE",
                "deliver 0; deliver 1 = HINT; asked 0 0 = 2");
        Script.run(check, "7: HINT found first goes behind REJECT", "wish 0 0 3; wish 0 5 3; allow 1 0 4", BOTH_ASK,
                "deliver 0; lose 1; deliver 1 = REJECT");
    }

    private static void hints(Check check) {
        Script.run(check, "7: HINT", "wish 0 0 9; wish 0 1 8; wish 0 2 0; wish 0 4 3",
                "allow 1 0 512; allow 1 1 512; allow 1 2 136; allow 1 3 2; allow 1 4 1", BOTH_ASK,
                "deliver 0; stateOf 1 = ASKING; lose 1; deliver 1 = HINT; stateOf 0 = ASKING; requests 0 = 2",
                "asked 0 0 = 9; asked 0 1 = 9; asked 0 2 = 3; asked 0 3 = NONE; asked 0 4 = 0",
                "deliver 0; deliver 1 = ACK; stateOf 0 = HEARD");
        Script.run(check, "7: the sets of the hearer at the time count", "wish 0 0 1; allow 0 0 2; allow 1 0 4", BOTH_ASK,
                "allow 1 0 8; deliver 0; lose 1; allow 1 0 16; deliver 1 = HINT; asked 0 0 = 3");
    }

    private static void refusalsAndStates(Check check) {
        String again = "close 0; lose 0; wish 0 2 2; open 0; deliver 0; stateOf 1 = ASKING; lose 1; lose 1;";
        Script.run(check, "7: HINT makes ASKING of ANSWERED", BOTH_ASK, "deliver 0; stateOf 1 = ANSWERED; allow 1 2 1",
                again, "deliver 1 = HINT");
        Script.run(check, "7: REJECT makes ASKING of ANSWERED", BOTH_ASK, "deliver 0; stateOf 1 = ANSWERED",
                again, "deliver 1 = REJECT");
        Script.run(check, "7: REJECT leaves HEARD", HEARD, "wish 1 0 1; close 1; lose 1; open 1; deliver 1",
                "stateOf 0 = HEARD; deliver 0 = REJECT");
        Script.run(check, "7: a REJECT leaves its hearer ANSWERED", "wish 0 0 1", BOTH_ASK,
                "deliver 1; stateOf 0 = ANSWERED; deliver 0 = REQUEST; deliver 1 = REJECT; stateOf 0 = ANSWERED",
                "deliver 0 = ACK; stateOf 1 = HEARD; deliver 0 = REQUEST; stateOf 1 = OPEN; deliver 1 = ACK; stateOf 0 = OPEN");
    }

    private static void oldAnswers(Check check) {
        Script.run(check, "7: REJECT for an old id", "wish 0 0 1", BOTH_ASK,
                "deliver 0; lose 1; pass 3 = 2; deliver 1 = REJECT; asked 0 0 = 1; requests 0 = 2");
        Script.run(check, "7: HINT for an old id", "wish 0 0 1; allow 1 0 1", BOTH_ASK,
                "deliver 0; lose 1; pass 3 = 2; deliver 1 = HINT; asked 0 0 = 1; requests 0 = 2");
        Script.run(check, "7: ACK for an old id", BOTH_ASK,
                "deliver 0; lose 1; pass 3 = 2; deliver 1 = ACK; stateOf 0 = ASKING");
        Script.run(check, "7: ACK for a request of before it was closed", BOTH_ASK,
                "deliver 0; close 0; open 0 = 1; lose 1; deliver 1 = ACK; stateOf 0 = ASKING");
        Script.run(check, "7: the answer has the id of the request, not of the answerer", "open 1; pass 3; pass 3; open 0",
                "deliver 0; lose 1; lose 1; lose 1; deliver 1 = ACK; stateOf 0 = HEARD");
    }

    private static void answersThatDoNotCount(Check check) {
        Script.run(check, "7: an answer to a CLOSED end", "wish 0 0 1", BOTH_ASK,
                "deliver 0; lose 1; close 0; deliver 1 = REJECT; asked 0 0 = 1; stateOf 0 = CLOSED; underWay 0 = 1");
        Script.run(check, "7: an ACK to a CLOSED end", BOTH_ASK,
                "deliver 0; lose 1; close 0; deliver 1 = ACK; stateOf 0 = CLOSED");
        // The end 0 gets its request back behind a changed magic number, and so acknowledges itself twice.
        Script.run(check, "7: an ACK to HEARD, and to OPEN", "setMagic 0 7; open 0; setMagic 0 8; loop 0",
                "stateOf 0 = ANSWERED; loop 0 = ACK; stateOf 0 = OPEN; missed 0 = 2; underWay 0 = 0");
        Script.run(check, "7: a REJECT to HEARD does not count",
                "open 0; open 1; deliver 0; lose 1; wish 1 0 3; close 1; open 1; deliver 1 = ACK; stateOf 0 = HEARD",
                "lose 1 = STOP; deliver 1 = REQUEST; stateOf 0 = HEARD; loop 0 = REJECT; stateOf 0 = HEARD; requests 0 = 1");
    }

    private static void openEndsAskAnew(Check check) {
        Script.run(check, "7: OPEN asks first, then answers", BOTH_OPEN, "close 0; lose 0; open 0 = 1; deliver 0 = REQUEST",
                "stateOf 1 = ANSWERED; requests 1 = 2; underWay 1 = 2; deliver 1 = REQUEST; deliver 1 = ACK",
                "stateOf 0 = OPEN; deliver 0 = ACK; stateOf 1 = OPEN");
        Script.run(check, "7: OPEN asks first, then rejects", BOTH_OPEN,
                "close 0; lose 0; wish 0 0 0; open 0; deliver 0; stateOf 1 = ASKING; lose 1 = REQUEST; deliver 1 = REJECT");
        Script.run(check, "7: the timer begins anew", BOTH_OPEN,
                "close 0; lose 0; open 0; deliver 0; close 0; pass 2 = 0; pass 1 = 1");
    }

    private static void givingUp(Check check) {
        Script.run(check, "10: the tenth request is the last one", "open 0; pass 27 = 9; requests 0 = 10; stateOf 0 = ASKING",
                "pass 2 = 0; stateOf 0 = ASKING; pass 1 = 0; stateOf 0 = CLOSED; requests 0 = 10; underWay 0 = 10",
                "pass 50 = 0; open 0 = 10; requests 0 = 1");
        Script.run(check, "7: an OPEN end gives up, and does nothing more", "open 1; pass 27 = 9; open 0",
                "deliver 0; deliver 1; lose 1; lose 1; lose 1; lose 1; lose 1; lose 1; lose 1; lose 1; deliver 1 = REQUEST",
                "deliver 1 = ACK; stateOf 0 = OPEN; lose 0 = ACK; deliver 0 = ACK; stateOf 1 = OPEN; requests 1 = 10",
                "close 0; lose 0 = STOP; open 0; deliver 0 = REQUEST; stateOf 1 = CLOSED; underWay 1 = 0; requests 1 = 10");
        Script.run(check, "7: a refused end gives up", "wish 0 0 5; allow 1 0 2; open 0; pass 27 = 9; open 1",
                "lose 0; lose 0; lose 0; lose 0; lose 0; lose 0; lose 0; lose 0; lose 0; deliver 0 = REQUEST",
                "lose 1 = REQUEST; deliver 1 = HINT; stateOf 0 = CLOSED; requests 0 = 10; asked 0 0 = 1; underWay 0 = 0");
        Script.run(check, "10: a HEARD end gives up", "open 0; pass 27 = 9; open 1",
                "lose 0; lose 0; lose 0; lose 0; lose 0; lose 0; lose 0; lose 0; lose 0; deliver 0 = REQUEST",
                "lose 1; deliver 1 = ACK; stateOf 0 = HEARD; pass 3 = 1; stateOf 0 = CLOSED; stateOf 1 = ANSWERED");
    }

    private static void losing(Check check) {
        Script.run(check, "8: lose", "lose 0 = STATE; missed 0 = 0; open 0; lose 1 = STATE; lose 0 = REQUEST; lose 0 = STATE",
                "missed 0 = 1; missed 1 = 0; underWay 0 = 0; stateOf 0 = ASKING; stateOf 1 = CLOSED; underWay 1 = 0",
                "close 0; lose 0 = STOP; missed 0 = 2; stateOf 1 = CLOSED");
        Script.run(check, "8: every kind", "wish 0 0 1; allow 1 1 1", BOTH_ASK,
                "deliver 0; lose 1 = REQUEST; lose 1 = REJECT; wish 0 0 NONE; wish 0 1 1; close 0; open 0; lose 0",
                "deliver 0; lose 1 = HINT; wish 0 1 0; close 0; open 0; lose 0; deliver 0; lose 1 = ACK; missed 1 = 4");
    }

    private static void looping(Check check) {
        Script.run(check, "9: a request", "loop 0 = STATE; open 0; loop 1 = STATE; loop 0 = REQUEST; isLooped 0 = yes",
                "stateOf 0 = ASKING; underWay 0 = 0; underWay 1 = 0; missed 0 = 1; missed 1 = 0; isLooped 1 = no");
        Script.run(check, "9: a STOP", "open 0; close 0; loop 0; open 0; loop 0 = STOP; stateOf 0 = CLOSED; underWay 0 = 1",
                "missed 0 = 2");
        Script.run(check, "9: a request with an older number is answered", "allow 0 0 1; wish 0 0 5; open 0; setMagic 0 5",
                "loop 0 = REQUEST; isLooped 0 = no; underWay 0 = 1; stateOf 0 = ASKING; loop 0 = HINT; asked 0 0 = 0",
                "requests 0 = 2; underWay 0 = 1; missed 0 = 2");
        Script.run(check, "9: a CLOSED end sends STOP", "open 0; close 0; setMagic 0 5; loop 0 = REQUEST; underWay 0 = 2",
                "lose 0 = STOP; lose 0 = STOP; isLooped 0 = no");
    }

    private static void loopedAnswers(Check check) {
        Script.run(check, "9: its own ACK counts by its id", BOTH_ASK, "deliver 0; lose 1; loop 1 = ACK; stateOf 1 = OPEN",
                "missed 1 = 2");
        Script.run(check, "9: its own HINT tells an option that it does not ask for", "wish 0 2 7; allow 1 2 16", BOTH_ASK,
                "deliver 0; lose 1; loop 1 = HINT; asked 1 2 = 4; asked 0 2 = 7; requests 1 = 2; stateOf 1 = ASKING");
        Script.run(check, "9: its own REJECT", "wish 0 2 7; wish 1 2 3; wish 1 3 3", BOTH_ASK,
                "deliver 0; lose 1; loop 1 = REJECT; asked 1 2 = NONE; asked 1 3 = 3; requests 1 = 2");
        Script.run(check, "9: its own ACK with another id does not count", BOTH_ASK,
                "deliver 0; lose 1; pass 3; loop 1 = ACK; stateOf 1 = ANSWERED");
    }

    private static void looped(Check check) {
        Script.run(check, "14: nothing else is done", "wish 0 0 1; setMagic 1 1; open 0; deliver 0; isLooped 1 = yes",
                "underWay 1 = 0; stateOf 1 = CLOSED; isLooped 0 = no; open 1; pass 3; deliver 0; underWay 1 = 2",
                "isLooped 1 = yes; stateOf 1 = ASKING; setMagic 1 2; pass 3; deliver 0; isLooped 1 = no");
        Script.run(check, "14: an OPEN end stays so", BOTH_OPEN, "setMagic 1 1; close 0; lose 0; open 0; deliver 0",
                "isLooped 1 = yes; stateOf 1 = OPEN; underWay 1 = 0");
        Script.run(check, "14: the last request counts, other frames do not", "open 0; loop 0; isLooped 0 = yes; close 0",
                "isLooped 0 = yes; open 0; isLooped 0 = yes; loop 0 = STOP; isLooped 0 = yes; open 1; deliver 1",
                "isLooped 0 = no");
        Script.run(check, "14: a CLOSED end tells too", "setMagic 1 1; open 0; deliver 0; isLooped 1 = yes; setMagic 1 3",
                "isLooped 1 = yes; pass 3; deliver 0; isLooped 1 = no; underWay 1 = 1");
    }

    private static void pass(Check check) {
        Script.run(check, "10: no ticks", "open 0; pass 0 = ARGUMENT; pass 51 = ARGUMENT; pass -1 = ARGUMENT",
                "pass MIN = ARGUMENT; pass MAX = ARGUMENT; underWay 0 = 1; pass 2 = 0; pass 1 = 1; requests 0 = 2");
        Script.run(check, "10: CLOSED ends", "pass 50 = 0; pass 1 = 0; underWay 0 = 0; underWay 1 = 0");
        Script.run(check, "10: both ends", "open 0; pass 1 = 0; open 1; pass 2 = 1; pass 1 = 1; requests 0 = 2; requests 1 = 2",
                "pass 50 = 16; underWay 0 = 10; underWay 1 = 10; stateOf 0 = CLOSED; stateOf 1 = CLOSED");
    }

    private static void timers(Check check) {
        Script.run(check, "10: HEARD becomes ASKING", HEARD, "pass 2 = 1; stateOf 0 = HEARD; pass 1 = 1; stateOf 0 = ASKING",
                "requests 0 = 2; stateOf 1 = ANSWERED");
        Script.run(check, "10: ANSWERED stays so", BOTH_ASK, "deliver 0; pass 3 = 2; stateOf 1 = ANSWERED; requests 1 = 2");
        Script.run(check, "10: OPEN rests", BOTH_OPEN, "pass 50 = 0; stateOf 0 = OPEN; stateOf 1 = OPEN");
        Script.run(check, "5: the timer begins when it is opened", "open 0; pass 2; close 0; open 0; pass 2 = 0; pass 1 = 1");
        Script.run(check, "7: and when a refused end asks", "wish 0 0 1", BOTH_ASK,
                "close 1; open 1; deliver 0; pass 2 = 0; lose 1; lose 1; lose 1; deliver 1 = REJECT; requests 0 = 2",
                "close 1; pass 2 = 0; pass 1 = 1");
        Script.run(check, "7: an ACK leaves the timer", BOTH_ASK, "pass 2 = 0; deliver 0; lose 1; deliver 1; close 1; pass 1 = 1");
    }

    private static void magicOfEachRequest(Check check) {
        Script.run(check, "4, 10: each request has the number of its time", "open 0; setMagic 0 2; pass 3; deliver 0",
                "isLooped 1 = no; deliver 0; isLooped 1 = yes");
    }

    private static void manyFrames(Check check) {
        OptionLine x = new OptionLine();
        int sent = 0;
        for (int round = 0; round < 170; round++) {
            check.same("5: id", x.open(0), sent);
            check.same("5: id", x.open(1), sent);
            check.same("10: requests", x.pass(50), 18);
            sent += 10;
        }
        check.same("15: all are under way", x.underWay(0), 1700);
        check.same("7: the first one", x.deliver(0), OptionLine.REQUEST);
        check.same("15: one less", x.underWay(0), 1699);
    }

    /** Behind the 512th call the answers are free, but calls go on to end, and the row stays a row. */
    private static void moreFramesThanAreKept(Check check) {
        OptionLine x = new OptionLine();
        for (int round = 0; round < 600; round++) {
            x.open(0);
            x.pass(50);
        }
        int kept = x.underWay(0);
        for (int frame = 0; frame < kept; frame++) {
            check.same("free: a kept frame", x.lose(0), OptionLine.REQUEST);
        }
        Script.goOn(check, x, "free: behind the last one", "lose 0 = STATE; underWay 0 = 0; open 0; lose 0 = REQUEST");
    }
}
