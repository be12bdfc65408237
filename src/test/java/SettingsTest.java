/** Promises 1 to 4: a new object, wish, allow, setMagic. */
public final class SettingsTest {
    private static final Class<IndexOutOfBoundsException> INDEX = IndexOutOfBoundsException.class;
    private static final Class<IllegalArgumentException> ARGUMENT = IllegalArgumentException.class;
    private static final int[] NO_END = {-1, 2, Integer.MIN_VALUE, Integer.MAX_VALUE};
    private static final int[] NO_OPTION = {-1, 6, Integer.MIN_VALUE, Integer.MAX_VALUE};

    public static void main(String[] args) {
        Check check = new Check("SettingsTest");
        newObject(check);
        wish(check);
        wishCountsWhenOpened(check);
        allow(check);
        setMagic(check);
        check.end();
    }

    private static void newObject(Check check) {
        OptionLine x = new OptionLine();
        for (int end = 0; end < 2; end++) {
            final int e = end;
            check.same("1: state", x.stateOf(end), OptionLine.CLOSED);
            check.same("1: requests", x.requests(end), 0);
            check.same("1: under way", x.underWay(end), 0);
            check.same("1: missed", x.missed(end), 0);
            check.holds("1: not looped", !x.isLooped(end));
            check.refuses("1: deliver", IllegalStateException.class, () -> x.deliver(e));
            for (int option = 0; option < 6; option++) {
                check.same("1: asked", x.asked(end, option), OptionLine.NONE);
                check.same("1: wish", x.wish(end, option, OptionLine.NONE), OptionLine.NONE);
                check.same("1: allow", x.allow(end, option, 0), 0);
            }
            check.same("1: magic", x.setMagic(end, 9), end + 1);
        }
        check.same("1: given", x.given(), 0);
        check.same("1: next", x.next(), 0);
        check.refuses("1: come", IllegalStateException.class, () -> x.come(0));
        check.refuses("1: givenAt", INDEX, () -> x.givenAt(0));
        check.same("1: pass", x.pass(50), 0);
        OptionLine other = new OptionLine();
        check.same("1: a second object has its own wishes", other.setMagic(0, 3), 1);
    }

    private static void wish(Check check) {
        OptionLine x = new OptionLine();
        for (int end = 0; end < 2; end++) {
            for (int option = 0; option < 6; option++) {
                check.same("2: before is NONE", x.wish(end, option, (option + end) % 10), -1);
            }
        }
        check.same("2: before", x.wish(0, 5, 9), 5);
        check.same("2: greatest value", x.wish(0, 5, OptionLine.NONE), 9);
        check.same("2: NONE", x.wish(0, 5, 0), -1);
        check.same("2: the other end", x.wish(1, 5, 0), 6);
        for (int bad : NO_END) {
            check.refuses("2: end " + bad, INDEX, () -> x.wish(bad, 0, 1));
            check.refuses("2: end before value", INDEX, () -> x.wish(bad, 0, 10));
        }
        for (int bad : NO_OPTION) {
            check.refuses("2: option " + bad, INDEX, () -> x.wish(0, bad, 1));
            check.refuses("2: option before value", INDEX, () -> x.wish(0, bad, -2));
        }
        for (int bad : new int[] {-2, 10, Integer.MIN_VALUE, Integer.MAX_VALUE}) {
            check.refuses("2: value " + bad, ARGUMENT, () -> x.wish(0, 4, bad));
        }
        check.same("2: a refused call changes nothing", x.wish(0, 4, 4), 4);
    }

    private static void wishCountsWhenOpened(Check check) {
        OptionLine x = new OptionLine();
        x.wish(0, 2, 7);
        check.same("2: not asked for before it is opened", x.asked(0, 2), OptionLine.NONE);
        x.open(0);
        x.wish(0, 2, 3);
        check.same("2: a later wish waits", x.asked(0, 2), 7);
        x.close(0);
        check.same("2: and waits still", x.asked(0, 2), 7);
        x.open(0);
        check.same("2: until it is opened", x.asked(0, 2), 3);
    }

    private static void allow(Check check) {
        OptionLine x = new OptionLine();
        check.same("3: before", x.allow(0, 0, 1023), 0);
        check.same("3: all", x.allow(0, 0, 1), 1023);
        check.same("3: one", x.allow(0, 0, 0), 1);
        check.same("3: none", x.allow(0, 0, 5), 0);
        check.same("3: the other end has its own", x.allow(1, 0, 2), 0);
        check.same("3: the other option has its own", x.allow(0, 5, 4), 0);
        for (int bad : NO_END) {
            check.refuses("3: end " + bad, INDEX, () -> x.allow(bad, 0, 1));
            check.refuses("3: end before set", INDEX, () -> x.allow(bad, 0, 1024));
        }
        for (int bad : NO_OPTION) {
            check.refuses("3: option " + bad, INDEX, () -> x.allow(1, bad, 1));
            check.refuses("3: option before set", INDEX, () -> x.allow(1, bad, -1));
        }
        for (int bad : new int[] {-1, 1024, Integer.MIN_VALUE, Integer.MAX_VALUE}) {
            check.refuses("3: set " + bad, ARGUMENT, () -> x.allow(0, 0, bad));
        }
        check.same("3: a refused call changes nothing", x.allow(0, 0, 0), 5);
    }

    private static void setMagic(Check check) {
        OptionLine x = new OptionLine();
        check.same("4: end 0 has 1", x.setMagic(0, Integer.MIN_VALUE), 1);
        check.same("4: end 1 has 2", x.setMagic(1, Integer.MAX_VALUE), 2);
        check.same("4: least int", x.setMagic(0, 0), Integer.MIN_VALUE);
        check.same("4: greatest int", x.setMagic(1, -1), Integer.MAX_VALUE);
        for (int bad : NO_END) {
            check.refuses("4: end " + bad, INDEX, () -> x.setMagic(bad, 1));
        }
        check.same("4: a refused call changes nothing", x.setMagic(0, 1), 0);

        OptionLine y = new OptionLine();
        y.open(0);
        y.setMagic(0, 2);
        y.deliver(0);
        check.holds("4: a request keeps the number of when it was sent", !y.isLooped(1));
        y.setMagic(1, 2);
        y.pass(3);
        y.deliver(0);
        check.holds("4: the number that the hearer has now counts", y.isLooped(1));
    }
}
