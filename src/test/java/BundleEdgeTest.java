import java.util.ArrayList;
import java.util.List;

/** The edges of the document's sentences on the bundle; each label quotes one. */
public final class BundleEdgeTest {
    private static final String[] BAD = {"-1", "3", "MIN", "MAX"};

    public static void main(String[] args) {
        Check check = new Check("BundleEdgeTest");
        piecesOfAPacket(check);
        sixtyPackets(check);
        linesInTurn(check);
        noneUnderWay(check);
        firstListedException(check);
        theBoundNeedsEachLine(check);
        belowTheBound(check);
        wholePackets(check);
        notTheFirstPiece(check);
        firstPieceThatHasNotCome(check);
        asLongAsItChangesSomething(check);
        wheneverAPieceHasCome(check);
        places(check);
        nextNumber(check);
        check.end();
    }

    private static void piecesOfAPacket(Check check) {
        String what = "'1 to 4: into how many it is cut': ";
        Script.run(check, what + "the least", "send 1 = 0; send 1 = 1; come 0 = 1; come 1 = 1; next = 2");
        Script.run(check, what + "the greatest", "send 4 = 0; send 4 = 4; come 0; come 1; come 2; next = 0; come 0 = 1; next = 4");
        for (String bad : new String[] {"0", "5", "-1", "MIN", "MAX"}) {
            Script.run(check, what + bad, "send " + bad + " = ARGUMENT; come 0 = STATE; send 2 = 0; send " + bad + " = ARGUMENT",
                    "come 2 = STATE; send 1 = 2; come 2 = 0; given = 0; next = 0");
        }
    }

    private static void sixtyPackets(Check check) {
        String what = "'there can be 60 packets': ";
        for (int pieces = 1; pieces <= 4; pieces++) {
            OptionLine x = new OptionLine();
            for (int packet = 0; packet < 60; packet++) {
                check.same(what + "the packet " + packet, x.send(pieces), pieces * packet);
            }
            Script.goOn(check, x, what + "no more", "send 1 = STATE; send 4 = STATE; next = 0; given = 0");
            for (int piece = 0; piece < 60 * pieces; piece++) {
                check.same(what + "the piece " + piece, x.come(piece % 3), piece % pieces == pieces - 1 ? 1 : 0);
            }
            Script.goOn(check, x, what + "no more when all are given", "send 1 = STATE; come 0 = STATE; come 1 = STATE",
                    "come 2 = STATE; given = 60; givenAt 59 = 59; givenAt 60 = INDEX; next = " + 60 * pieces);
        }
        OptionLine x = new OptionLine();
        for (int packet = 0; packet < 60; packet++) {
            check.same(what + "a refused one is none", x.send(1), packet);
            Script.goOn(check, x, what + "a refused one is none", "send 0 = ARGUMENT; send 5 = ARGUMENT");
        }
        Script.goOn(check, x, what + "no more when all are lost", "drop 0 = 0; drop 1 = 1; drop 2 = 2; send 1 = STATE");
    }

    private static void linesInTurn(Check check) {
        String what = "'over the lines 0, 1 and 2 in turn': ";
        for (int pieces = 1; pieces <= 4; pieces++) {
            OptionLine x = new OptionLine();
            for (int packet = 0; packet < 60; packet++) {
                x.send(pieces);
            }
            for (int piece = 0; piece < 60 * pieces; piece++) {
                check.same(what + "packets of " + pieces, x.drop(piece % 3), piece);
            }
        }
        Script.run(check, what + "behind the line 2 comes the line 0", "send 3; send 1 = 3; come 0; drop 0 = 3; drop 0 = STATE");
        Script.run(check, what + "behind a refused packet", "send 2; send 0 = ARGUMENT; send 5 = ARGUMENT; send 1 = 2; drop 2 = 2");
        Script.run(check, what + "behind lines that are empty again", "send 1; come 0; send 1; drop 0 = STATE; drop 1 = 1; send 1",
                "drop 1 = STATE; drop 2 = 2; send 1; drop 0 = 3");
    }

    private static void noneUnderWay(Check check) {
        for (String call : new String[] {"come ", "drop "}) {
            String what = "'if none is under way on it': " + call;
            Script.run(check, what + "a new bundle", call + "0 = STATE; " + call + "1 = STATE; " + call + "2 = STATE; next = 0");
            Script.run(check, what + "pieces on the other lines", "send 2; " + call + "2 = STATE; " + call + "1; " + call + "1 = STATE",
                    call + "0; " + call + "0 = STATE");
            for (String bad : BAD) {
                Script.run(check, "'if there is no such line': " + call + bad, call + bad + " = INDEX; send 4",
                        call + bad + " = INDEX; drop 0 = 0; drop 1 = 1; drop 2 = 2; drop 0 = 3; " + call + bad + " = INDEX");
            }
        }
    }

    private static void firstListedException(Check check) {
        String what = "'the one that is listed first is thrown': ";
        for (String bad : BAD) {
            Script.run(check, what + "no such line, and nothing under way", "come " + bad + " = INDEX; drop " + bad + " = INDEX");
        }
        OptionLine x = new OptionLine();
        for (int packet = 0; packet < 60; packet++) {
            x.send(1);
        }
        for (String bad : new String[] {"0", "5", "-1", "MIN", "MAX"}) {
            Script.goOn(check, x, what + "no such count, and 60 packets", "send " + bad + " = ARGUMENT; send 1 = STATE");
        }
    }

    /** The piece 0 is lost; it is told as soon as something behind it has come over each line. */
    private static void theBoundNeedsEachLine(Check check) {
        String what = "'-1 as long as nothing came over one of them': ";
        int[] given = {5, 3, 4};
        for (int silent = 0; silent < 3; silent++) {
            String others = "";
            for (int line = 0; line < 3; line++) {
                others += line == silent ? "" : ("come " + line + " = 0; ").repeat(line == 0 ? 2 : 3);
            }
            String begin = "send 1; send 1; send 1; send 1; send 1; send 1; send 1; send 1; send 1; drop 0 = 0; ";
            Script.run(check, what + "the line " + silent, begin, others, "next = 0; given = 0",
                    "come " + silent + " = " + given[silent] + "; next = " + (1 + given[silent]));
            // A lost piece is none that came: only what comes behind it moves the bound.
            Script.run(check, what + "a drop over the line " + silent, begin, others, "drop " + silent + "; next = 0; given = 0");
        }
    }

    private static void belowTheBound(Check check) {
        String what = "'its number is below the bound': ";
        Script.run(check, what + "by 1", "send 1; send 1; send 1; send 1; send 1; come 0 = 1; drop 1 = 1; come 2 = 0; come 0 = 0",
                "next = 1; send 1; come 1 = 3; next = 5; givenAt 1 = 2; givenAt 2 = 3; givenAt 3 = 4");
        Script.run(check, what + "greater by 1", "send 1; send 1; send 1; send 1; send 1; send 1; send 1; come 0 = 1; come 1 = 1",
                "drop 2 = 2; come 0 = 0; come 1 = 0; next = 2; drop 2 = 5; next = 2; come 0 = 0; next = 2; given = 2");
        Script.run(check, what + "the least one of the three, not the greatest", "send 4; send 4; drop 0 = 0; come 1; come 1; come 1",
                "come 2; come 2; next = 0; come 0 = 0; next = 4; come 0 = 1; next = 8; givenAt 0 = 1");
        // The least number is once each line's: the pieces 0 to 11 are packets of their own, the first one over each line lost.
        for (int least = 0; least < 3; least++) {
            OptionLine x = new OptionLine();
            for (int packet = 0; packet < 12; packet++) {
                x.send(1);
            }
            for (int line = 0; line < 3; line++) {
                x.drop(line);
            }
            int other = (least + 1) % 3;
            int third = (least + 2) % 3;
            Script.goOn(check, x, what + "the least over " + least, "come " + other + " = 0; come " + other + " = 0; come " + third + " = 0",
                    "come " + third + " = 0; come " + other + " = 0; next = 0; come " + least + "; next = " + (6 + least));
        }
    }

    private static void wholePackets(Check check) {
        String what = "'all others of the packet have come': ";
        Script.run(check, what + "there are no others", "send 1; come 0 = 1; next = 1; given = 1");
        int[][] lastOnes = {{0, 1, 2, 0}, {2, 1, 0, 0}, {1, 2, 0, 0}, {0, 2, 0, 1}, {0, 0, 1, 2}, {0, 0, 2, 1}};
        for (int[] order : lastOnes) {
            OptionLine x = Script.run(check, what + "four", "send 4");
            for (int place = 0; place < 4; place++) {
                check.same(what + "the last one over the line " + order[3], x.come(order[place]), place == 3 ? 1 : 0);
                check.same(what + "next", x.next(), place == 3 ? 4 : 0);
            }
        }
        Script.run(check, what + "the next packet's first piece is none of them", "send 2; send 2; come 0 = 0; come 2 = 0; come 1 = 1",
                "next = 2; come 0 = 1; next = 4");
    }

    private static void notTheFirstPiece(Check check) {
        String what = "'if the next piece has come, and is not the first one of its packet': ";
        // The bound is 1 there: the pieces 2 and 3, which have come, are passed though they are not below it.
        Script.run(check, what + "not below the bound", "send 4; send 3; come 2 = 0; drop 0 = 0; come 0 = 0; next = 0; come 1 = 0",
                "next = 4; given = 0");
        Script.run(check, what + "the bound itself", "send 3; drop 0 = 0; send 1; come 0 = 0; come 2 = 0; next = 0; come 1 = 1",
                "next = 4; givenAt 0 = 1");
        Script.run(check, what + "the last number that was sent", "send 4; drop 0 = 0; come 1; come 2; come 0 = 0; next = 4",
                "send 1 = 4; come 1 = 1; next = 5");
    }

    private static void firstPieceThatHasNotCome(Check check) {
        String what = "'the first piece of its packet that has not come': ";
        String rest = "send 4; send 4; send 4; send 4;";
        Script.run(check, what + "the second one", rest, "come 0; drop 1 = 1; come 2; come 0; come 2; next = 0; come 1 = 0; next = 4",
                "come 0 = 0; come 1 = 1; givenAt 0 = 1; next = 8");
        Script.run(check, what + "the third one", rest, "come 0; come 1; drop 2 = 2; come 0; come 1; next = 0; come 2 = 0; next = 4");
        Script.run(check, what + "the last one", rest, "come 0; come 1; come 2; drop 0 = 3; come 1; come 2; next = 0; come 0 = 0",
                "next = 4");
        Script.run(check, what + "two are lost, the second one is not told yet", rest, "come 0; drop 1 = 1; come 2; drop 0 = 3; come 1 = 0",
                "next = 0; come 2 = 0; next = 0; come 0 = 0; next = 4; come 1 = 1; next = 8");
        Script.run(check, what + "two are lost, and told by one piece", rest, "come 0; drop 1 = 1; come 1; drop 2 = 2; come 2; next = 0",
                "come 0 = 0; next = 4; come 0 = 0; come 1 = 1; next = 8; givenAt 0 = 1");
        Script.run(check, what + "the first one waits, and so do those behind it", "send 3; send 1; send 1; send 1; come 0; come 1",
                "come 0 = 0; come 1 = 0; next = 0; given = 0; come 2 = 3; next = 5");
    }

    private static void asLongAsItChangesSomething(Check check) {
        String what = "'as long as it changes something': ";
        OptionLine ones = new OptionLine();
        for (int packet = 0; packet < 60; packet++) {
            ones.send(1);
        }
        loseAllButTheLastOfLineZero(check, ones, 60);
        Script.goOn(check, ones, what + "40 and 1 by one piece", "next = 0; given = 0; come 0 = 41; next = 60; given = 41; givenAt 0 = 1",
                "givenAt 1 = 2; givenAt 2 = 4; givenAt 37 = 56; givenAt 38 = 57; givenAt 39 = 58; givenAt 40 = 59");
        OptionLine fours = new OptionLine();
        for (int packet = 0; packet < 60; packet++) {
            fours.send(4);
        }
        loseAllButTheLastOfLineZero(check, fours, 240);
        Script.goOn(check, fours, what + "240 numbers by one piece", "next = 0; given = 0; come 0 = 1; next = 240; givenAt 0 = 59");
        mostChanges(check);
    }

    /** The first piece of each packet is lost, so that each number is passed by a change of its own. */
    private static void mostChanges(Check check) {
        OptionLine x = new OptionLine();
        for (int packet = 0; packet < 60; packet++) {
            x.send(4);
        }
        for (int piece = 0; piece < 240; piece++) {
            if (piece % 4 == 0 || piece % 3 == 0 && piece < 237) {
                check.same("the lost piece", x.drop(piece % 3), piece);
            } else if (piece != 237) {
                check.same("nothing is given by " + piece, x.come(piece % 3), 0);
            }
        }
        Script.goOn(check, x, "'as long as it changes something': 240 changes by one piece", "next = 0; come 0 = 0; next = 240",
                "given = 0");
    }

    private static void loseAllButTheLastOfLineZero(Check check, OptionLine x, int pieces) {
        for (int piece = 0; piece < pieces; piece++) {
            if (piece % 3 != 0) {
                check.same("nothing is given by " + piece, x.come(piece % 3), 0);
            } else if (piece < pieces - 3) {
                check.same("the lost piece", x.drop(0), piece);
            }
        }
    }

    private static void wheneverAPieceHasCome(Check check) {
        String what = "'whenever a piece has come': ";
        Script.run(check, what + "not when one is lost", "send 1; send 1; send 1; send 1; drop 1 = 1; come 2 = 0; come 0 = 1; come 0 = 0",
                "next = 1; drop 0 = STATE; next = 1; given = 1");
        Script.run(check, what + "not when one is sent", "send 4; drop 0; drop 1; drop 2; drop 0; next = 0; send 4; next = 0");
        Script.run(check, what + "not when a call is refused", "send 2; come 1; come 1 = STATE; come 3 = INDEX; send 5 = ARGUMENT; next = 0");
        Script.run(check, what + "all are lost", "send 1; send 1; send 1; drop 0; drop 1; drop 2; next = 0; given = 0; givenAt 0 = INDEX");
    }

    private static void places(Check check) {
        String what = "'if there are not so many, or place is below 0': ";
        Script.run(check, what + "none is given", "givenAt 0 = INDEX; givenAt -1 = INDEX; given = 0; send 1; givenAt 0 = INDEX",
                "drop 0; givenAt 0 = INDEX");
        Script.run(check, what + "some are given", "send 1; send 2; come 0; givenAt 0 = 0; givenAt 1 = INDEX; come 1; givenAt 1 = INDEX",
                "come 2 = 1; givenAt 0 = 0; givenAt 1 = 1; givenAt 2 = INDEX; givenAt -1 = INDEX; givenAt 59 = INDEX",
                "givenAt 60 = INDEX; givenAt MIN = INDEX; givenAt MAX = INDEX; given = 2");
        Script.run(check, "'returns its number': not its place", "send 1; send 1; send 1; send 1; drop 0; come 0; come 1; come 2 = 3",
                "givenAt 0 = 1; givenAt 1 = 2; givenAt 2 = 3; givenAt 3 = INDEX; given = 3");
    }

    private static void nextNumber(Check check) {
        String what = "'the next number': ";
        Script.run(check, what + "0 at first", "next = 0; send 4; next = 0; drop 0 = 0; next = 0");
        Script.run(check, what + "behind all that was sent", "send 4; come 0; come 1; come 2; come 0 = 1; next = 4; send 4 = 4; next = 4");
        List<Integer> sizes = new ArrayList<>(List.of(1, 4, 2, 3, 1, 1, 4));
        OptionLine x = new OptionLine();
        int piece = 0;
        for (int packet = 0; packet < sizes.size(); packet++) {
            check.same(what + "the first piece", x.send(sizes.get(packet)), piece);
            for (int place = 1; place <= sizes.get(packet); place++) {
                check.same(what + "before the last piece", x.next(), piece - place + 1);
                check.same(what + "given by a piece", x.come(piece % 3), place == sizes.get(packet) ? 1 : 0);
                piece++;
            }
            check.same(what + "that behind the packet", x.next(), piece);
            check.same("'how many packets were given'", x.given(), packet + 1);
        }
    }
}
