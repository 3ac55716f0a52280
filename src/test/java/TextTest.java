/** Promises 1 (a new object), 2 (feed), 3 (end) and 13 (count). */
public final class TextTest {
    private static final Checks CHECKS = new Checks();

    public static void main(String[] args) {
        newObject();
        feed();
        feedBytes();
        end();
        endTwice();
        endedBytesAreGone();
        count();
        CHECKS.finish();
    }

    private static void newObject() {
        ClockTexts x = new ClockTexts();
        CHECKS.due("1: bytes of the text", x.count(0), 0);
        CHECKS.due("1: written", x.count(1), 0);
        CHECKS.due("1: kept", x.count(2), 0);
        CHECKS.due("1: fault", x.fault(), 0);
        CHECKS.dueThrow("1: out(0)", IndexOutOfBoundsException.class, () -> x.out(0));
        CHECKS.dueThrow("1: again()", IllegalStateException.class, x::again);
        CHECKS.dueThrow("1: seconds()", IllegalStateException.class, x::seconds);
        CHECKS.dueThrow("1: unit(0)", IllegalStateException.class, () -> x.unit(0));
        CHECKS.dueThrow("1: keep()", IllegalStateException.class, x::keep);
        CHECKS.dueThrow("1: order(0)", IndexOutOfBoundsException.class, () -> x.order(0));
        CHECKS.dueThrow("1: between(0, 0)", IndexOutOfBoundsException.class, () -> x.between(0, 0));
        ClockTexts other = Checks.reading(0, "7001010000Z");
        other.keep();
        CHECKS.due("1: another object's times are its own", x.count(2), 0);
    }

    private static void feed() {
        ClockTexts x = new ClockTexts();
        for (int i = 1; i <= 15; i++) {
            CHECKS.due("2: feed " + i, x.feed(-1, 0, Integer.MIN_VALUE, Integer.MAX_VALUE), 16L * i);
        }
        CHECKS.dueThrow("2: feed 16", IllegalStateException.class, () -> x.feed(0, 0, 0, 0));
        CHECKS.due("2: a refused feed leaves the text", x.count(0), 240);
        CHECKS.due("2: end(1)", x.end(1), 225);
        CHECKS.dueThrow("2: feed behind 225", IllegalStateException.class, () -> x.feed(0, 0, 0, 0));
        CHECKS.due("2: end(15)", x.end(15), 224);
        CHECKS.due("2: feed behind 224", x.feed(0, 0, 0, 0), 240);
        CHECKS.dueThrow("2: read", IllegalArgumentException.class, () -> x.read(1));
        CHECKS.due("2: feed behind a reading", x.feed(0, 0, 0, 0), 16);
    }

    private static void feedBytes() {
        ClockTexts x = new ClockTexts();
        x.feed(0x31393730, 0x30313032, 0x30333034, 0x30352e36);
        x.feed(0x3738392b, 0x30303031, 0, 0);
        x.end(8);
        CHECKS.due("2: read", x.read(1), 20);
        CHECKS.dueText("2: the highest byte of a comes first", Checks.written(x), "19700102030305.6789Z");
    }

    private static void end() {
        ClockTexts x = new ClockTexts();
        CHECKS.dueThrow("3: end(0), empty", IllegalStateException.class, () -> x.end(0));
        CHECKS.dueThrow("3: end(16), empty", IllegalStateException.class, () -> x.end(16));
        int[] wrong = {-1, 17, Integer.MIN_VALUE, Integer.MAX_VALUE};
        for (int n : wrong) {
            CHECKS.dueThrow("3: end(" + n + "), empty", IllegalArgumentException.class, () -> x.end(n));
        }
        for (int n = 0; n <= 16; n++) {
            ClockTexts y = new ClockTexts();
            y.feed(0, 0, 0, 0);
            y.feed(0, 0, 0, 0);
            CHECKS.due("3: end(" + n + ")", y.end(n), 16 + n);
            CHECKS.due("3: count(0) behind end(" + n + ")", y.count(0), 16 + n);
        }
        x.feed(0, 0, 0, 0);
        for (int n : wrong) {
            CHECKS.dueThrow("3: end(" + n + ")", IllegalArgumentException.class, () -> x.end(n));
        }
        CHECKS.due("3: a refused end leaves the text", x.count(0), 16);
        CHECKS.due("3: end(15)", x.end(15), 15);
        CHECKS.dueThrow("3: end(15), fifteen there", IllegalStateException.class, () -> x.end(15));
    }

    private static void endTwice() {
        ClockTexts x = new ClockTexts();
        byte[] first = Checks.bytes("7001020304Z.....");
        Checks.feedSixteen(x, first);
        Checks.feedSixteen(x, first);
        CHECKS.due("3: end(11)", x.end(11), 27);
        CHECKS.due("3: end(0), across feeds", x.end(0), 11);
        CHECKS.due("3: read", x.read(0), 13);
        CHECKS.dueText("3: the first of the sixteen stay", Checks.written(x), "700102030400Z");
    }

    private static void endedBytesAreGone() {
        ClockTexts x = new ClockTexts();
        Checks.feedSixteen(x, Checks.bytes("1970010203040506"));
        x.end(10);
        CHECKS.dueThrow("3: read of ten", IllegalArgumentException.class, () -> x.read(1));
        CHECKS.due("3: digits behind the end are gone", x.fault(), 2);
        Checks.feedSixteen(x, Checks.bytes("1970010203+01300"));
        x.end(13);
        CHECKS.due("3: digits of the zone behind the end are gone", x.read(1), 15);
        CHECKS.due("3: hour", x.unit(3), 2);
        CHECKS.due("3: minute", x.unit(4), 0);
        Checks.feedSixteen(x, Checks.bytes("7001020304Z....."));
        x.end(10);
        CHECKS.dueThrow("3: read without Z", IllegalArgumentException.class, () -> x.read(0));
    }

    private static void count() {
        ClockTexts x = Checks.reading(1, "2000010203.5Z");
        x.keep();
        x.keep();
        x.feed(0, 0, 0, 0);
        CHECKS.due("13: count(0)", x.count(0), 16);
        CHECKS.due("13: count(1)", x.count(1), 15);
        CHECKS.due("13: count(2)", x.count(2), 2);
        int[] others = {3, -1, 4, Integer.MIN_VALUE, Integer.MAX_VALUE};
        for (int what : others) {
            CHECKS.due("13: count(" + what + ")", x.count(what), ClockTexts.NONE);
        }
    }
}
