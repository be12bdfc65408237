/** Promises 17 to 22: packets over the three lines. */
public final class BundleTest {
    public static void main(String[] args) {
        Check check = new Check("BundleTest");
        send(check);
        sixtyPackets(check);
        lines(check);
        come(check);
        drop(check);
        givenAt(check);
        lostPieces(check);
        lostFirstPieces(check);
        boundNeedsAllLines(check);
        wholePacketsGoBeforeLoss(check);
        check.end();
    }

    private static void send(Check check) {
        Script.run(check, "17: send", "send 1 = 0; send 4 = 1; send 2 = 5; send 3 = 7; send 1 = 10; given = 0; next = 0");
        Script.run(check, "17: no such count", "send 0 = ARGUMENT; send 5 = ARGUMENT; send -1 = ARGUMENT",
                "send MIN = ARGUMENT; send MAX = ARGUMENT; come 0 = STATE; send 1 = 0");
    }

    private static void sixtyPackets(Check check) {
        OptionLine x = new OptionLine();
        for (int packet = 0; packet < 60; packet++) {
            check.same("17: first piece", x.send(4), 4 * packet);
        }
        Script.goOn(check, x, "17: the 61st", "send 4 = STATE; send 1 = STATE; send 0 = ARGUMENT; send 5 = ARGUMENT");
        int given = 0;
        for (int piece = 0; piece < 240; piece++) {
            given += x.come(piece % 3);
            check.same("18, 20: given", given, (piece + 1) / 4);
            check.same("20: given", x.given(), given);
        }
        for (int packet = 0; packet < 60; packet++) {
            check.same("21: in order", x.givenAt(packet), packet);
        }
        Script.goOn(check, x, "all have come", "next = 240; given = 60; givenAt 60 = INDEX; come 0 = STATE; come 1 = STATE",
                "come 2 = STATE; drop 0 = STATE; send 1 = STATE");
    }

    private static void lines(Check check) {
        for (String bad : new String[] {"-1", "3", "MIN", "MAX"}) {
            Script.run(check, "18, 19: no such line", "come " + bad + " = INDEX; drop " + bad + " = INDEX; send 4",
                    "come " + bad + " = INDEX; drop " + bad + " = INDEX; next = 0; drop 0 = 0");
        }
        Script.run(check, "18, 19: nothing on a line", "come 0 = STATE; drop 0 = STATE; come 1 = STATE; drop 2 = STATE",
                "send 2; come 2 = STATE; drop 2 = STATE; drop 1 = 1; drop 1 = STATE; come 1 = STATE; come 0 = 0; come 0 = STATE");
        Script.run(check, "17: lines in turn over all packets", "send 2 = 0; send 3 = 2; send 2 = 5",
                "drop 0 = 0; drop 0 = 3; drop 0 = 6; drop 0 = STATE; drop 1 = 1; drop 1 = 4; drop 1 = STATE",
                "drop 2 = 2; drop 2 = 5; drop 2 = STATE; send 1 = 7; drop 1 = 7; drop 0 = STATE");
    }

    private static void come(Check check) {
        Script.run(check, "18: a packet of one piece", "send 1; come 0 = 1; given = 1; givenAt 0 = 0; next = 1");
        Script.run(check, "18: put together in order", "send 3; send 1; send 2; come 2 = 0; come 2 = 0; come 0 = 0; come 0 = 0",
                "next = 0; come 1 = 2; next = 4; givenAt 0 = 0; givenAt 1 = 1; come 1 = 1; givenAt 2 = 2; next = 6");
        Script.run(check, "18: three by one piece", "send 1; send 1; send 1; come 1 = 0; come 2 = 0; come 0 = 3; given = 3; next = 3");
    }

    private static void drop(Check check) {
        Script.run(check, "19: a drop gives nothing and tells nothing", "send 1; send 1; send 1; drop 0 = 0; come 1 = 0; come 2 = 0",
                "next = 0; given = 0; send 1; drop 0 = 3; next = 0; send 2; send 1; come 1 = 0; come 2 = 0; next = 0",
                "come 0 = 4; next = 7; given = 4; givenAt 0 = 1; givenAt 1 = 2; givenAt 2 = 4; givenAt 3 = 5");
    }

    private static void givenAt(Check check) {
        Script.run(check, "21: givenAt", "givenAt 0 = INDEX; send 1; givenAt 0 = INDEX; come 0 = 1; givenAt 0 = 0",
                "givenAt 1 = INDEX; givenAt -1 = INDEX; givenAt MIN = INDEX; givenAt MAX = INDEX; given = 1");
    }

    private static void lostPieces(Check check) {
        // The packet 0 has the pieces 0 to 3, and its piece 2 is lost: it is told when the bound is above 2.
        Script.run(check, "18: a lost piece in the midst", "send 4; send 2; send 3; come 0 = 0; come 1 = 0; drop 2 = 2; come 0 = 0",
                "next = 0; come 1 = 0; next = 0; come 2 = 1; next = 6; given = 1; givenAt 0 = 1");
        Script.run(check, "18: the bound itself is not below the bound", "send 2; send 1; send 1; send 1; send 1",
                "drop 0 = 0; come 1 = 0; come 2 = 0; come 1 = 0; come 2 = 0; next = 0; given = 0");
        Script.run(check, "18: a missing last piece", "send 4; send 4; send 4",
                "come 0; come 1; come 2; drop 0 = 3; come 1; come 2; next = 0; come 0 = 0; next = 4; come 1 = 1; next = 8",
                "given = 1; givenAt 0 = 1");
    }

    private static void lostFirstPieces(Check check) {
        Script.run(check, "18: pieces behind a lost first one are passed over", "send 3; send 3; drop 0 = 0; come 1 = 0; come 2 = 0",
                "next = 0; come 0 = 0; next = 3; come 1 = 0; come 2 = 1; next = 6; givenAt 0 = 1");
        Script.run(check, "18: passed over by their being no first ones alone", "send 3; send 3; drop 0; come 1; come 0; next = 0",
                "come 2 = 0; next = 3");
        Script.run(check, "18: two lost in one packet", "send 4; send 2; send 4; drop 0 = 0; come 1; drop 2 = 2; come 0 = 0; come 1 = 0",
                "next = 0; come 2 = 1; next = 6; givenAt 0 = 1");
    }

    private static void boundNeedsAllLines(Check check) {
        Script.run(check, "18: nothing came over the line 2", "send 1; send 1; send 1; send 4; drop 0; come 0; come 1; come 1",
                "next = 0; drop 2 = 2; next = 0; come 2 = 1; givenAt 0 = 1; next = 3; come 0 = 1; next = 7");
    }

    private static void wholePacketsGoBeforeLoss(Check check) {
        Script.run(check, "18: a whole packet is given though the bound is far", "send 3; send 1; send 1; send 1; come 0; come 1; come 2 = 1",
                "come 0 = 1; come 1 = 1; come 2 = 1; given = 4; next = 6");
        Script.run(check, "18: a lost packet between whole ones", "send 3; send 3; send 3; come 0; come 1; come 2 = 1",
                "drop 0 = 3; drop 1 = 4; drop 2 = 5; next = 3; come 0 = 0; come 1 = 0; next = 3; come 2 = 1; next = 9",
                "givenAt 0 = 0; givenAt 1 = 2; givenAt 2 = INDEX");
    }
}
