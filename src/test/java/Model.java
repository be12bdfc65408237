import java.util.ArrayDeque;
import java.util.ArrayList;
import java.util.Deque;
import java.util.List;
import java.util.Map;
import java.util.Set;
import java.util.TreeMap;
import java.util.TreeSet;

/**
 * The document once more, with maps, queues and sets of the Java library: slow, and by other means than the
 * program, so that a slip in one of them shows as a difference. Answers are texts, as Check.outcome tells them.
 */
final class Model {
    private static final String INDEX = "throws.IndexOutOfBoundsException";
    private static final String ARGUMENT = "throws.IllegalArgumentException";
    private static final String STATE = "throws.IllegalStateException";

    private record Message(String kind, int id, int magic, Map<Integer, Integer> options) {
    }

    private static final class Side {
        final Map<Integer, Integer> wishes = new TreeMap<>();
        final Map<Integer, Integer> sets = new TreeMap<>();
        Map<Integer, Integer> asks = new TreeMap<>();
        final Deque<Message> sent = new ArrayDeque<>();
        String state = "CLOSED";
        int magic;
        int timer;
        int requestsEver;
        int requestsNow;
        boolean looped;
        int missed;
    }

    /** What the runs have come to, so that the test can tell that they are no idle ones. */
    final Set<String> seen = new TreeSet<>();
    private final Side[] sides = {new Side(), new Side()};
    private final List<List<Integer>> packets = new ArrayList<>();
    private final List<Deque<Integer>> lines = List.of(new ArrayDeque<>(), new ArrayDeque<>(), new ArrayDeque<>());
    private final Map<Integer, Integer> lastOver = new TreeMap<>();
    private final Set<Integer> come = new TreeSet<>();
    private final List<Integer> given = new ArrayList<>();
    private int pieces;
    private int next;

    Model() {
        sides[0].magic = 1;
        sides[1].magic = 2;
    }

    String call(String name, int[] a) {
        switch (name) {
            case "given": return text(given.size());
            case "next": return text(next);
            case "givenAt": return a[0] >= 0 && a[0] < given.size() ? text(given.get(a[0])) : INDEX;
            case "pass": return a[0] < 1 || a[0] > 50 ? ARGUMENT : text(pass(a[0]));
            case "send": return send(a[0]);
            case "come": case "drop": return line(name, a[0]);
            default: break;
        }
        if (a[0] != 0 && a[0] != 1) {
            return INDEX;
        }
        Side side = sides[a[0]];
        if (name.equals("wish") || name.equals("allow") || name.equals("asked")) {
            return a[1] < 0 || a[1] > 5 ? INDEX : option(name, side, a);
        }
        return frames(name, side, sides[1 - a[0]], a);
    }

    private static String text(int number) {
        return Integer.toString(number);
    }

    private static String option(String name, Side side, int[] a) {
        if (name.equals("asked")) {
            return text(side.asks.getOrDefault(a[1], -1));
        }
        if (name.equals("allow")) {
            if ((a[2] & ~1023) != 0) {
                return ARGUMENT;
            }
            Integer before = side.sets.put(a[1], a[2]);
            return text(before == null ? 0 : before);
        }
        if (a[2] < -1 || a[2] > 9) {
            return ARGUMENT;
        }
        Integer before = a[2] == -1 ? side.wishes.remove(a[1]) : side.wishes.put(a[1], a[2]);
        return text(before == null ? -1 : before);
    }

    private String frames(String name, Side side, Side other, int[] a) {
        switch (name) {
            case "setMagic": {
                int before = side.magic;
                side.magic = a[1];
                return text(before);
            }
            case "stateOf": return text(List.of("CLOSED", "ASKING", "HEARD", "ANSWERED", "OPEN").indexOf(side.state));
            case "requests": return text(side.requestsNow);
            case "isLooped": return side.looped ? "1" : "0";
            case "underWay": return text(side.sent.size());
            case "missed": return text(side.missed);
            case "open": return open(side);
            case "close": return close(side);
            default: break;
        }
        if (side.sent.isEmpty()) {
            return STATE;
        }
        Message first = side.sent.removeFirst();
        if (name.equals("deliver")) {
            comes(other, first);
        } else {
            side.missed++;
            if (name.equals("loop")) {
                seen.add("looped " + first.kind());
                comes(side, first);
            }
        }
        return text(List.of("REQUEST", "ACK", "HINT", "REJECT", "STOP").indexOf(first.kind()));
    }

    private String open(Side side) {
        if (!side.state.equals("CLOSED")) {
            return STATE;
        }
        side.asks = new TreeMap<>(side.wishes);
        side.requestsNow = 0;
        side.state = "ASKING";
        asks(side);
        return text(side.requestsEver - 1);
    }

    private String close(Side side) {
        if (side.state.equals("CLOSED")) {
            return STATE;
        }
        String before = frames("stateOf", side, side, new int[] {0});
        side.sent.addLast(new Message("STOP", -7, 0, Map.of()));
        side.state = "CLOSED";
        return before;
    }

    private void asks(Side side) {
        if (side.requestsNow == 10) {
            seen.add("gave up");
            side.state = "CLOSED";
            return;
        }
        side.sent.addLast(new Message("REQUEST", side.requestsEver, side.magic, new TreeMap<>(side.asks)));
        side.requestsEver++;
        side.requestsNow++;
        side.timer = 3;
    }

    private void comes(Side side, Message m) {
        seen.add(m.kind() + " to " + side.state);
        if (m.kind().equals("STOP")) {
            side.state = "CLOSED";
        } else if (m.kind().equals("REQUEST")) {
            requestComes(side, m);
        } else if (Set.of("ASKING", "ANSWERED").contains(side.state) && m.id() == side.requestsEver - 1) {
            answerComes(side, m);
        }
        seen.add(side.state);
    }

    private void answerComes(Side side, Message m) {
        seen.add(m.kind() + " counts");
        if (m.kind().equals("ACK")) {
            side.state = side.state.equals("ASKING") ? "HEARD" : "OPEN";
            return;
        }
        if (m.kind().equals("HINT")) {
            side.asks.putAll(m.options());
        } else {
            side.asks.keySet().removeAll(m.options().keySet());
        }
        asks(side);
    }

    private void requestComes(Side side, Message m) {
        side.looped = m.magic() == side.magic;
        if (side.looped) {
            seen.add("looped");
            return;
        }
        if (side.state.equals("CLOSED")) {
            side.sent.addLast(new Message("STOP", -7, 0, Map.of()));
            return;
        }
        if (side.state.equals("OPEN")) {
            side.state = "ASKING";
            asks(side);
            if (side.state.equals("CLOSED")) {
                seen.add("gave up when OPEN");
                return;
            }
        }
        Map<Integer, Integer> unknown = new TreeMap<>();
        Map<Integer, Integer> other = new TreeMap<>();
        m.options().forEach((option, value) -> {
            int set = side.sets.getOrDefault(option, 0);
            if (set == 0) {
                unknown.put(option, value);
            } else if ((set & 1 << value) == 0) {
                other.put(option, Integer.numberOfTrailingZeros(set));
            }
        });
        if (unknown.isEmpty() && other.isEmpty()) {
            side.sent.addLast(new Message("ACK", m.id(), 0, Map.of()));
            side.state = Map.of("ASKING", "ANSWERED", "HEARD", "OPEN").getOrDefault(side.state, side.state);
            return;
        }
        side.sent.addLast(unknown.isEmpty() ? new Message("HINT", m.id(), 0, other)
                : new Message("REJECT", m.id(), 0, unknown));
        side.state = side.state.equals("ANSWERED") ? "ASKING" : side.state;
    }

    private int pass(int ticks) {
        int before = sides[0].requestsEver + sides[1].requestsEver;
        for (int tick = 0; tick < ticks; tick++) {
            for (Side side : sides) {
                if (Set.of("ASKING", "HEARD", "ANSWERED").contains(side.state) && --side.timer == 0) {
                    seen.add("timer of " + side.state);
                    side.state = side.state.equals("HEARD") ? "ASKING" : side.state;
                    asks(side);
                }
            }
        }
        return sides[0].requestsEver + sides[1].requestsEver - before;
    }

    private String send(int count) {
        if (count < 1 || count > 4) {
            return ARGUMENT;
        }
        if (packets.size() == 60) {
            seen.add("60 packets");
            return STATE;
        }
        List<Integer> packet = new ArrayList<>();
        for (int i = 0; i < count; i++) {
            packet.add(pieces);
            lines.get(pieces % 3).addLast(pieces);
            pieces++;
        }
        packets.add(packet);
        return text(packet.get(0));
    }

    private String line(String name, int line) {
        if (line < 0 || line > 2) {
            return INDEX;
        }
        if (lines.get(line).isEmpty()) {
            return STATE;
        }
        int piece = lines.get(line).removeFirst();
        if (name.equals("drop")) {
            return text(piece);
        }
        come.add(piece);
        lastOver.put(line, piece);
        int before = given.size();
        while (changes()) {
            seen.add("steps");
        }
        return text(given.size() - before);
    }

    private boolean changes() {
        int bound = -1;
        if (lastOver.size() == 3) {
            bound = Math.min(lastOver.get(0), Math.min(lastOver.get(1), lastOver.get(2)));
        }
        List<Integer> begun = null;
        for (List<Integer> packet : packets) {
            if (packet.get(0) == next) {
                begun = packet;
            }
        }
        boolean here = come.contains(next);
        if (here && begun != null && come.containsAll(begun)) {
            seen.add("step 1");
            given.add(packets.indexOf(begun));
            next = begun.get(begun.size() - 1) + 1;
            return true;
        }
        if (here && begun == null || !here && next < bound) {
            seen.add(here ? "step 2, not the first" : "step 2, lost");
            next++;
            return true;
        }
        if (here) {
            for (int piece : begun) {
                if (!come.contains(piece)) {
                    seen.add(piece < bound ? "step 3" : "step 3 waits");
                    next = piece < bound ? piece + 1 : next;
                    return piece < bound;
                }
            }
        }
        return false;
    }
}
