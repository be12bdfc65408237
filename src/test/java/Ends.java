/**
 * Runs that bring the end 0 to a state, as text for Script. Behind them the end 1 is not CLOSED, nothing is under
 * way, the end 0 has just sent the told number of requests (so that its timer is 3), the end 1 one with the id 0.
 */
final class Ends {
    static final String[] NOT_CLOSED = {"ASKING", "HEARD", "ANSWERED", "OPEN"};
    static final String[] ALL = {"CLOSED", "ASKING", "HEARD", "ANSWERED", "OPEN"};

    private Ends() {
    }

    /** The end 0 has sent that many requests, from 1 to 10, and the last one alone is under way. */
    static String asking(int requests) {
        return "open 0;" + (requests > 1 ? "pass " + 3 * (requests - 1) + ";" : "") + "lose 0;".repeat(requests - 1);
    }

    static String in(String state, int requests) {
        switch (state) {
            case "CLOSED": return asking(requests) + "open 1; lose 0; lose 1; close 0; lose 0;";
            case "ASKING": return asking(requests) + "open 1; lose 0; lose 1;";
            case "HEARD": return asking(requests) + "open 1; deliver 0; lose 1; deliver 1;";
            case "ANSWERED": return asking(requests) + "open 1; lose 0; deliver 1; lose 0;";
            case "OPEN": return asking(requests) + "open 1; deliver 0; deliver 1; deliver 1; lose 0;";
            default: throw new AssertionError("no state " + state);
        }
    }

    static String in(String state) {
        return in(state, 1);
    }

    /** The end 1 sends a request that the end 0 answers with that kind; it is under way alone. */
    static String requestFor(String answer) {
        String settings = answer.equals("ACK") ? "wish 1 4 NONE;" : "wish 1 4 5; allow 0 4 " + (answer.equals("HINT") ? 64 : 0) + ";";
        return settings + "close 1; lose 1; open 1;";
    }
}
