import java.util.Arrays;

/**
 * A point-to-point link whose two ends ask each other for options, and beside it a bundle of three
 * lines over which packets are sent in pieces.
 */
public final class OptionLine {
    public static final int NONE = -1;
    public static final int REQUEST = 0, ACK = 1, HINT = 2, REJECT = 3, STOP = 4;
    public static final int CLOSED = 0, ASKING = 1, HEARD = 2, ANSWERED = 3, OPEN = 4;

    private static final int OPTIONS = 6;
    private static final int GREATEST_VALUE = 9;
    private static final int GREATEST_SET = 1023;
    private static final int TIMER_START = 3;
    private static final int MOST_REQUESTS = 10;
    private static final int MOST_TICKS = 50;
    private static final int MOST_FRAMES = 4096;

    private static final int LINES = 3;
    private static final int MOST_PACKETS = 60;
    private static final int MOST_PIECES = 4;

    private final End endZero;
    private final End endOne;
    private final Bundle bundle;

    public OptionLine() {
        endZero = new End(1);
        endOne = new End(2);
        bundle = new Bundle();
    }

    // ---- settings

    public int wish(int end, int option, int value)
            throws IndexOutOfBoundsException, IllegalArgumentException {
        End setter = endAt(end);
        refuseNoOption(option);
        if (value < NONE || value > GREATEST_VALUE) {
            throw new IllegalArgumentException("the value is not 0 to 9, nor NONE");
        }
        return setter.changeWish(option, value);
    }

    public int allow(int end, int option, int values)
            throws IndexOutOfBoundsException, IllegalArgumentException {
        End setter = endAt(end);
        refuseNoOption(option);
        if (values < 0 || values > GREATEST_SET) {
            throw new IllegalArgumentException("the set is not 0 to 1023");
        }
        return setter.changeAllowed(option, values);
    }

    public int setMagic(int end, int number) throws IndexOutOfBoundsException {
        return endAt(end).changeMagic(number);
    }

    // ---- the link

    public int open(int end) throws IndexOutOfBoundsException, IllegalStateException {
        End opener = endAt(end);
        if (opener.state != CLOSED) {
            throw new IllegalStateException("the end is not closed");
        }
        return opener.begin();
    }

    public int close(int end) throws IndexOutOfBoundsException, IllegalStateException {
        End closer = endAt(end);
        if (closer.state == CLOSED) {
            throw new IllegalStateException("the end is closed");
        }
        return closer.finish();
    }

    public int deliver(int end) throws IndexOutOfBoundsException, IllegalStateException {
        Frame frame = takeFrame(endAt(end));
        endAt(1 - end).hear(frame);
        return frame.kind;
    }

    public int lose(int end) throws IndexOutOfBoundsException, IllegalStateException {
        End sender = endAt(end);
        Frame frame = takeFrame(sender);
        sender.missedFrames++;
        return frame.kind;
    }

    public int loop(int end) throws IndexOutOfBoundsException, IllegalStateException {
        End sender = endAt(end);
        Frame frame = takeFrame(sender);
        sender.missedFrames++;
        sender.hear(frame);
        return frame.kind;
    }

    public int pass(int ticks) throws IllegalArgumentException {
        if (ticks < 1 || ticks > MOST_TICKS) {
            throw new IllegalArgumentException("the ticks are not 1 to 50");
        }
        int sent = 0;
        for (int tick = 0; tick < ticks; tick++) {
            sent += endZero.tick() ? 1 : 0;
            sent += endOne.tick() ? 1 : 0;
        }
        return sent;
    }

    public int stateOf(int end) throws IndexOutOfBoundsException {
        return endAt(end).state;
    }

    public int asked(int end, int option) throws IndexOutOfBoundsException {
        End asker = endAt(end);
        refuseNoOption(option);
        return asker.askedFor[option];
    }

    public int requests(int end) throws IndexOutOfBoundsException {
        return endAt(end).sentRequests;
    }

    public boolean isLooped(int end) throws IndexOutOfBoundsException {
        return endAt(end).looped;
    }

    public int underWay(int end) throws IndexOutOfBoundsException {
        return endAt(end).row.count;
    }

    public int missed(int end) throws IndexOutOfBoundsException {
        return endAt(end).missedFrames;
    }

    // ---- the bundle

    public int send(int pieces) throws IllegalArgumentException, IllegalStateException {
        if (pieces < 1 || pieces > MOST_PIECES) {
            throw new IllegalArgumentException("the pieces are not 1 to 4");
        }
        if (bundle.packets >= MOST_PACKETS) {
            throw new IllegalStateException("there are 60 packets");
        }
        return bundle.addPacket(pieces);
    }

    public int come(int line) throws IndexOutOfBoundsException, IllegalStateException {
        refuseEmptyLine(line);
        return bundle.bring(line);
    }

    public int drop(int line) throws IndexOutOfBoundsException, IllegalStateException {
        refuseEmptyLine(line);
        return bundle.takePiece(line);
    }

    public int given() {
        return bundle.givenCount;
    }

    public int givenAt(int place) throws IndexOutOfBoundsException {
        if (place < 0 || place >= bundle.givenCount) {
            throw new IndexOutOfBoundsException("not so many packets were given");
        }
        return bundle.givenPackets[place];
    }

    public int next() {
        return bundle.nextNumber;
    }

    // ---- what the calls refuse

    private End endAt(int end) {
        if (end == 0) {
            return endZero;
        }
        if (end == 1) {
            return endOne;
        }
        throw new IndexOutOfBoundsException("there is no such end");
    }

    private static void refuseNoOption(int option) {
        if (option < 0 || option >= OPTIONS) {
            throw new IndexOutOfBoundsException("there is no such option");
        }
    }

    private static Frame takeFrame(End sender) {
        Frame frame = sender.row.takeFirst();
        if (frame == null) {
            throw new IllegalStateException("no frame of the end is under way");
        }
        return frame;
    }

    private void refuseEmptyLine(int line) {
        if (line < 0 || line >= LINES) {
            throw new IndexOutOfBoundsException("there is no such line");
        }
        if (!bundle.hasPieceOn(line)) {
            throw new IllegalStateException("no piece is under way on the line");
        }
    }

    /** What an end has sent; values has NONE at each option that the frame does not tell. */
    private static final class Frame {
        final int kind;
        final int id;
        final int magic;
        final int[] values;
        Frame behind;

        Frame(int kind, int id, int magic, int[] values) {
            this.kind = kind;
            this.id = id;
            this.magic = magic;
            this.values = values;
        }
    }

    /** The frames of one end that are under way, first in, first out. */
    private static final class FrameRow {
        private Frame first;
        private Frame last;
        private int count;

        void put(Frame frame) {
            // 512 calls leave at most 2816 frames here; the bound keeps what comes after them small.
            if (count >= MOST_FRAMES) {
                return;
            }
            if (last == null) {
                first = frame;
            } else {
                last.behind = frame;
            }
            last = frame;
            count++;
        }

        /** Answers null if no frame is under way. */
        Frame takeFirst() {
            Frame taken = first;
            if (taken == null) {
                return null;
            }
            first = taken.behind;
            if (first == null) {
                last = null;
            }
            count--;
            return taken;
        }
    }

    /** One end of the link. */
    private static final class End {
        private final int[] wishes = new int[OPTIONS];
        private final int[] allowed = new int[OPTIONS];
        private final int[] askedFor = new int[OPTIONS];
        private final FrameRow row = new FrameRow();
        private int magic;
        private int state = CLOSED;
        private int timer = 0;
        private int sentRequests = 0;
        private int lastId = -1;
        private boolean looped = false;
        private int missedFrames = 0;

        End(int magic) {
            this.magic = magic;
            Arrays.fill(wishes, NONE);
            Arrays.fill(askedFor, NONE);
        }

        int changeWish(int option, int value) {
            int before = wishes[option];
            wishes[option] = value;
            return before;
        }

        int changeAllowed(int option, int values) {
            int before = allowed[option];
            allowed[option] = values;
            return before;
        }

        int changeMagic(int number) {
            int before = magic;
            magic = number;
            return before;
        }

        /** Opens the end; answers the id of its request. */
        int begin() {
            System.arraycopy(wishes, 0, askedFor, 0, OPTIONS);
            sentRequests = 0;
            state = ASKING;
            ask();
            return lastId;
        }

        /** Closes the end; answers its state before. */
        int finish() {
            int before = state;
            sendStop();
            state = CLOSED;
            return before;
        }

        /** Tells whether a request is sent by the tick. */
        boolean tick() {
            if (state == CLOSED || state == OPEN) {
                return false;
            }
            timer--;
            if (timer > 0) {
                return false;
            }
            if (state == HEARD) {
                state = ASKING;
            }
            return ask();
        }

        void hear(Frame frame) {
            switch (frame.kind) {
                case REQUEST:
                    hearRequest(frame);
                    break;
                case STOP:
                    state = CLOSED;
                    break;
                default:
                    hearAnswer(frame);
                    break;
            }
        }

        private void hearRequest(Frame request) {
            looped = request.magic == magic;
            if (looped) {
                return;
            }
            if (state == CLOSED) {
                sendStop();
                return;
            }
            if (state == OPEN) {
                if (!ask()) {
                    return;
                }
                state = ASKING;
            }
            answer(request);
        }

        private void hearAnswer(Frame answer) {
            boolean waits = state == ASKING || state == ANSWERED;
            if (!waits || answer.id != lastId) {
                return;
            }
            if (answer.kind == ACK) {
                state = state == ASKING ? HEARD : OPEN;
                return;
            }
            changeAskedFor(answer);
            ask();
        }

        private void changeAskedFor(Frame answer) {
            for (int option = 0; option < OPTIONS; option++) {
                if (answer.values[option] != NONE) {
                    askedFor[option] = answer.kind == HINT ? answer.values[option] : NONE;
                }
            }
        }

        /** Tells whether the request is sent; if not, the end is closed. */
        private boolean ask() {
            if (sentRequests >= MOST_REQUESTS) {
                state = CLOSED;
                return false;
            }
            sentRequests++;
            lastId++;
            timer = TIMER_START;
            row.put(new Frame(REQUEST, lastId, magic, Arrays.copyOf(askedFor, OPTIONS)));
            return true;
        }

        private void sendStop() {
            row.put(new Frame(STOP, 0, 0, tellNothing()));
        }

        private void answer(Frame request) {
            int kind = kindOfAnswer(request.values);
            row.put(new Frame(kind, request.id, 0, toldOptions(kind, request.values)));
            if (kind != ACK) {
                state = state == ANSWERED ? ASKING : state;
            } else if (state == ASKING) {
                state = ANSWERED;
            } else if (state == HEARD) {
                state = OPEN;
            }
        }

        private int kindOfAnswer(int[] values) {
            int kind = ACK;
            for (int option = 0; option < OPTIONS; option++) {
                if (isUnknown(option, values[option])) {
                    return REJECT;
                }
                if (isRefused(option, values[option])) {
                    kind = HINT;
                }
            }
            return kind;
        }

        private int[] toldOptions(int kind, int[] values) {
            int[] told = tellNothing();
            for (int option = 0; option < OPTIONS; option++) {
                if (kind == REJECT && isUnknown(option, values[option])) {
                    told[option] = values[option];
                }
                if (kind == HINT && isRefused(option, values[option])) {
                    told[option] = lowestAllowed(option);
                }
            }
            return told;
        }

        private boolean isUnknown(int option, int value) {
            return value != NONE && allowed[option] == 0;
        }

        private boolean isRefused(int option, int value) {
            return value != NONE && !allows(option, value);
        }

        private boolean allows(int option, int value) {
            return (allowed[option] >> value & 1) == 1;
        }

        private int lowestAllowed(int option) {
            for (int value = 0; value <= GREATEST_VALUE; value++) {
                if (allows(option, value)) {
                    return value;
                }
            }
            return NONE;
        }

        private static int[] tellNothing() {
            int[] values = new int[OPTIONS];
            Arrays.fill(values, NONE);
            return values;
        }
    }

    /** The three lines, and the packets that are sent over them in pieces. */
    private static final class Bundle {
        /** The first piece of each packet, and at packets the number that the next one begins with. */
        private final int[] starts = new int[MOST_PACKETS + 1];
        private final int[] packetOfPiece = new int[MOST_PACKETS * MOST_PIECES];
        private final boolean[] hasCome = new boolean[MOST_PACKETS * MOST_PIECES];
        private final int[] firstOnLine = new int[LINES];
        private final int[] lastOverLine = new int[LINES];
        private final int[] givenPackets = new int[MOST_PACKETS];
        private int packets = 0;
        private int givenCount = 0;
        private int nextNumber = 0;

        Bundle() {
            for (int line = 0; line < LINES; line++) {
                firstOnLine[line] = line;
            }
            Arrays.fill(lastOverLine, -1);
        }

        /** Answers the number of the packet's first piece. */
        int addPacket(int pieces) {
            int start = starts[packets];
            for (int piece = start; piece < start + pieces; piece++) {
                packetOfPiece[piece] = packets;
            }
            packets++;
            starts[packets] = start + pieces;
            return start;
        }

        boolean hasPieceOn(int line) {
            return firstOnLine[line] < starts[packets];
        }

        int takePiece(int line) {
            int piece = firstOnLine[line];
            firstOnLine[line] = piece + LINES;
            return piece;
        }

        /** Lets the first piece on the line come; answers how many packets are given by that. */
        int bring(int line) {
            int before = givenCount;
            int piece = takePiece(line);
            hasCome[piece] = true;
            lastOverLine[line] = piece;
            int left = hasCome.length;
            while (left > 0 && advance()) {
                left--;
            }
            return givenCount - before;
        }

        /** Tells whether the next number grew. */
        private boolean advance() {
            int piece = nextNumber;
            // A number that was not sent yet is never below the bound.
            if (piece >= starts[packets]) {
                return false;
            }
            int packet = packetOfPiece[piece];
            if (hasCome[piece] && starts[packet] == piece) {
                return advanceFromFirst(packet);
            }
            if (!hasCome[piece] && piece >= bound()) {
                return false;
            }
            nextNumber = piece + 1;
            return true;
        }

        private boolean advanceFromFirst(int packet) {
            int gap = firstNotCome(packet);
            if (gap == starts[packet + 1]) {
                give(packet);
                nextNumber = gap;
                return true;
            }
            if (gap >= bound()) {
                return false;
            }
            nextNumber = gap + 1;
            return true;
        }

        private void give(int packet) {
            // No packet is given twice, so there is room; yet nothing else on the way here looks at the index.
            if (givenCount < givenPackets.length) {
                givenPackets[givenCount] = packet;
                givenCount++;
            }
        }

        /** Answers the number behind the packet if all its pieces have come. */
        private int firstNotCome(int packet) {
            int end = starts[packet + 1];
            for (int piece = starts[packet]; piece < end; piece++) {
                if (!hasCome[piece]) {
                    return piece;
                }
            }
            return end;
        }

        private int bound() {
            int least = lastOverLine[0];
            for (int line = 1; line < LINES; line++) {
                least = Math.min(least, lastOverLine[line]);
            }
            return least;
        }
    }
}
