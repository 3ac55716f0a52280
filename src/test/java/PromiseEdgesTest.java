import java.util.function.Supplier;

/** The boundary cases that the promises name: a test of its own for each such sentence. */
public final class PromiseEdgesTest {
    private static final Class<IllegalStateException> STATE = IllegalStateException.class;
    private static final Class<IllegalArgumentException> ARGUMENT = IllegalArgumentException.class;
    private static final Class<IndexOutOfBoundsException> INDEX = IndexOutOfBoundsException.class;
    private static final Class<UnsupportedOperationException> UNSUPPORTED = UnsupportedOperationException.class;
    private static final int ZONE = 2;
    private static final String LONGEST = "2000010203." + Checks.repeat("1", 228) + "Z";
    private static final Checks CHECKS = new Checks();

    public static void main(String[] args) {
        text();
        reading();
        time();
        kept();
        CHECKS.finish();
    }

    private static void text() {
        CHECKS.sentence("1: An empty text", PromiseEdgesTest::newText);
        CHECKS.sentence("1: no time", PromiseEdgesTest::newTime);
        CHECKS.sentence("1: none kept", PromiseEdgesTest::newKept);
        CHECKS.sentence("2: Sixteen bytes come behind the text, the highest of a first",
                PromiseEdgesTest::feedOrder);
        CHECKS.sentence("2: how many it has", PromiseEdgesTest::feedAnswers);
        CHECKS.sentence("2: IllegalStateException, when there would be more than 240",
                PromiseEdgesTest::feedTooMany);
        CHECKS.sentence("2: a refused feed", PromiseEdgesTest::feedRefused);
        CHECKS.sentence("3: Of the last sixteen bytes n (0 .. 16) count, the others are gone",
                PromiseEdgesTest::endCounts);
        CHECKS.sentence("3: the last sixteen, of more feeds than one", PromiseEdgesTest::endAcrossFeeds);
        CHECKS.sentence("3: IllegalArgumentException, when n is none of these", PromiseEdgesTest::endOfNoSuch);
        CHECKS.sentence("3: IllegalStateException, when there are less than sixteen",
                PromiseEdgesTest::endOfTooFew);
        CHECKS.sentence("3: a refused end", PromiseEdgesTest::endRefused);
    }

    private static void reading() {
        CHECKS.sentence("4: Reads the text by a kind (the text is empty then)", PromiseEdgesTest::readEmpties);
        CHECKS.sentence("4: how many bytes are written", PromiseEdgesTest::readAnswers);
        CHECKS.sentence("4: IllegalArgumentException, when there is no such kind (nothing is done)",
                PromiseEdgesTest::readOfNoKind);
        CHECKS.sentence("4: or it has a fault (there is no time then)", PromiseEdgesTest::readOfFault);
        CHECKS.sentence("4: an empty text has a fault", PromiseEdgesTest::readOfNothing);
        CHECKS.sentence("5: The fault of the latest reading", PromiseEdgesTest::faultOfLatest);
        CHECKS.sentence("5: 0 without one", PromiseEdgesTest::faultWithout);
        CHECKS.sentence("6: Byte i of what was written", PromiseEdgesTest::outOfAll);
        CHECKS.sentence("6: IndexOutOfBoundsException, when there is none", PromiseEdgesTest::outOfNone);
    }

    private static void time() {
        CHECKS.sentence("7: What was written comes as the text (what is there is gone)",
                PromiseEdgesTest::againReplaces);
        CHECKS.sentence("7: how many bytes", PromiseEdgesTest::againAnswers);
        CHECKS.sentence("7: IllegalStateException, when there is no time", PromiseEdgesTest::againWithout);
        CHECKS.sentence("8: The time's seconds", PromiseEdgesTest::secondsEnds);
        CHECKS.sentence("8: IllegalStateException, when there is no time", PromiseEdgesTest::secondsWithout);
        CHECKS.sentence("9: year .. second, digits of the part", PromiseEdgesTest::unitEnds);
        CHECKS.sentence("9: the day of the week (7: 0 Monday .. 6 Sunday)", PromiseEdgesTest::unitWeek);
        CHECKS.sentence("9: IllegalStateException, when there is no time", PromiseEdgesTest::unitWithout);
        CHECKS.sentence("9: IndexOutOfBoundsException, for another what", PromiseEdgesTest::unitOfNoSuch);
    }

    private static void kept() {
        CHECKS.sentence("10: Keeps the time: its number", PromiseEdgesTest::keepNumbers);
        CHECKS.sentence("10: IllegalStateException, when there is none", PromiseEdgesTest::keepWithout);
        CHECKS.sentence("10: UnsupportedOperationException, when there are forty", PromiseEdgesTest::keepFull);
        CHECKS.sentence("11: The number of the k-th kept time, in the order of time",
                PromiseEdgesTest::orderEnds);
        CHECKS.sentence("11: IndexOutOfBoundsException, when there is none", PromiseEdgesTest::orderOfNone);
        CHECKS.sentence("12: Seconds from one kept time to another one", PromiseEdgesTest::betweenEnds);
        CHECKS.sentence("12: (parts do not count)", PromiseEdgesTest::betweenParts);
        CHECKS.sentence("12: IndexOutOfBoundsException, when there are no such ones",
                PromiseEdgesTest::betweenOfNone);
        CHECKS.sentence("13: Bytes of the text (0)", PromiseEdgesTest::countText);
        CHECKS.sentence("13: written (1)", PromiseEdgesTest::countWritten);
        CHECKS.sentence("13: kept ones (2)", PromiseEdgesTest::countKept);
        CHECKS.sentence("13: NONE for another what", PromiseEdgesTest::countOther);
    }

    /** Numbers that no call takes, and the two beside what it takes. */
    private static int[] outside(int least, int most) {
        return new int[] {least - 1, most + 1, least - 16, most + 256, 1 << 16, 1 << 24, 1 << 31, -(1 << 30),
            Integer.MIN_VALUE + 1, Integer.MAX_VALUE};
    }

    private static void feedNoughts(ClockTexts x, int times) {
        for (int i = 0; i < times; i++) {
            x.feed(0, 0, 0, 0);
        }
    }

    /** A new object whose text has so many bytes. */
    private static ClockTexts ofBytes(int count) {
        ClockTexts x = new ClockTexts();
        feedNoughts(x, (count + 15) / 16);
        if (count % 16 > 0) {
            x.end(count % 16);
        }
        return x;
    }

    /** A new object that has kept one time so many times. */
    private static ClockTexts keeping(int count) {
        ClockTexts x = Checks.reading(1, "2000010203Z");
        for (int number = 0; number < count; number++) {
            x.keep();
        }
        return x;
    }

    private static ClockTexts with(ClockTexts x, String text) {
        Checks.put(x, text);
        return x;
    }

    private static void newText() {
        CHECKS.due("count(0)", new ClockTexts().count(0), 0);
        CHECKS.dueRefused("end(0)", ClockTexts::new, STATE, x -> x.end(0));
        CHECKS.due("the first feed", new ClockTexts().feed(0, 0, 0, 0), 16);
    }

    private static void newTime() {
        CHECKS.due("count(1)", new ClockTexts().count(1), 0);
        CHECKS.due("fault()", new ClockTexts().fault(), 0);
        CHECKS.dueRefused("out(0)", ClockTexts::new, INDEX, x -> x.out(0));
        CHECKS.dueRefused("again()", ClockTexts::new, STATE, ClockTexts::again);
        CHECKS.dueRefused("seconds()", ClockTexts::new, STATE, ClockTexts::seconds);
        for (int what = 0; what <= 7; what++) {
            int asked = what;
            CHECKS.dueRefused("unit(" + what + ")", ClockTexts::new, STATE, x -> x.unit(asked));
        }
        CHECKS.dueRefused("keep()", ClockTexts::new, STATE, ClockTexts::keep);
    }

    private static void newKept() {
        CHECKS.due("count(2) of another object", keeping(1).count(2), 1);
        ClockTexts x = new ClockTexts();
        CHECKS.due("count(2)", x.count(2), 0);
        CHECKS.dueRefused("order(0)", ClockTexts::new, INDEX, y -> y.order(0));
        CHECKS.dueRefused("between(0, 0)", ClockTexts::new, INDEX, y -> y.between(0, 0));
        Checks.readInto(x, 1, "2000010100Z");
        CHECKS.due("the first number", x.keep(), 0);
    }

    private static void feedOrder() {
        ClockTexts x = new ClockTexts();
        x.feed(0x39383736, 0x31323233, 0x31343535, 0x33372e36);
        x.feed(0x31323334, 0x35363738, 0x39383736, 0x3534335a);
        CHECKS.due("read", x.read(1), 32);
        CHECKS.dueText("written", Checks.written(x), "98761223145537.6123456789876543Z");
        ClockTexts high = new ClockTexts();
        high.feed(0x31393730 | 0x80000000, 0x30313032, 0x30335a00, 0);
        high.end(11);
        CHECKS.dueThrow("the highest bit belongs to a's first byte", ARGUMENT, () -> high.read(1));
        CHECKS.due("its fault", high.fault(), 1);
    }

    private static void feedAnswers() {
        ClockTexts x = new ClockTexts();
        int[] words = {0, -1, 1, Integer.MIN_VALUE, Integer.MAX_VALUE};
        for (int i = 0; i < 15; i++) {
            int word = words[i % words.length];
            CHECKS.due("feed " + i, x.feed(word, word, word, word), 16 + 16L * i);
        }
        ClockTexts y = ofBytes(16);
        y.end(0);
        CHECKS.due("behind an end(0)", y.feed(0, 0, 0, 0), 16);
        y.end(5);
        CHECKS.due("behind five", y.feed(0, 0, 0, 0), 21);
    }

    private static void feedTooMany() {
        CHECKS.due("behind 223", ofBytes(223).feed(0, 0, 0, 0), 239);
        CHECKS.due("behind 224", ofBytes(224).feed(0, 0, 0, 0), 240);
        for (int count = 225; count <= 240; count++) {
            int there = count;
            CHECKS.dueRefused("behind " + count, () -> ofBytes(there), STATE, x -> x.feed(0, 0, 0, 0));
        }
    }

    private static void feedRefused() {
        String longest = "20000102030405." + Checks.repeat("1", 224) + "Z";
        CHECKS.dueRefused("feed behind 240", () -> with(new ClockTexts(), longest), STATE,
                x -> x.feed(-1, -1, -1, -1));
        ClockTexts x = with(new ClockTexts(), longest);
        for (int i = 0; i < 20; i++) {
            CHECKS.dueThrow("feed behind 240, " + i, STATE, () -> x.feed(-1, -1, -1, -1));
        }
        CHECKS.due("the text is as it was", x.read(1), 240);
        CHECKS.dueText("written", Checks.written(x), longest);
        CHECKS.due("behind the reading", x.feed(0, 0, 0, 0), 16);
    }

    private static void endCounts() {
        for (int n = 0; n <= 16; n++) {
            ClockTexts x = with(new ClockTexts(), "2000010203040506");
            CHECKS.due("end(" + n + ")", x.end(n), n);
            CHECKS.due("count(0) behind end(" + n + ")", x.count(0), n);
            CHECKS.dueThrow("read behind end(" + n + ")", ARGUMENT, () -> x.read(1));
            boolean zoneIsDue = n == 10 || n == 12 || n == 14;
            CHECKS.due("fault behind end(" + n + ")", x.fault(), zoneIsDue ? ZONE : 1);
        }
        ClockTexts x = with(new ClockTexts(), "2000010203Z.....");
        x.end(10);
        Checks.put(x, "Z");
        CHECKS.due("others come where some are gone", x.read(1), 15);
    }

    private static void endAcrossFeeds() {
        ClockTexts x = ofBytes(32);
        CHECKS.due("end(4)", x.end(4), 20);
        CHECKS.due("end(16) of twenty", x.end(16), 20);
        CHECKS.due("end(0) of twenty", x.end(0), 4);
        ClockTexts y = ofBytes(240);
        for (int left = 224; left >= 0; left -= 16) {
            CHECKS.due("end(0) to " + left, y.end(0), left);
        }
        CHECKS.dueThrow("end(0) of nothing", STATE, () -> y.end(0));
    }

    private static void endOfNoSuch() {
        for (int n : outside(0, 16)) {
            CHECKS.dueRefused("end(" + n + ")", () -> ofBytes(32), ARGUMENT, x -> x.end(n));
        }
        CHECKS.due("end(0)", ofBytes(32).end(0), 16);
        CHECKS.due("end(16)", ofBytes(32).end(16), 32);
    }

    private static void endOfTooFew() {
        for (int count = 0; count <= 15; count++) {
            int there = count;
            for (int n = 0; n <= 16; n++) {
                int asked = n;
                CHECKS.dueRefused("end(" + n + ") of " + count, () -> ofBytes(there), STATE, x -> x.end(asked));
            }
        }
        CHECKS.due("end(3) of sixteen", ofBytes(16).end(3), 3);
    }

    private static void endRefused() {
        ClockTexts x = with(new ClockTexts(), "2000010203.25+01");
        CHECKS.dueThrow("end(17)", ARGUMENT, () -> x.end(17));
        CHECKS.dueThrow("end(-1)", ARGUMENT, () -> x.end(-1));
        CHECKS.due("all sixteen are there", x.end(13), 13);
        CHECKS.dueThrow("end(0) of thirteen", STATE, () -> x.end(0));
        Checks.put(x, "Z");
        CHECKS.due("the text is as it was", x.read(1), 15);
        CHECKS.dueText("written", Checks.written(x), "20000102031500Z");
    }

    private static void readEmpties() {
        for (int kind = 0; kind <= 1; kind++) {
            int asked = kind;
            ClockTexts x = Checks.reading(kind, kind == 0 ? "0001020304Z" : "2000010203Z");
            CHECKS.due("behind a right one", x.count(0), 0);
            CHECKS.due("its next feed", x.feed(0, 0, 0, 0), 16);
            CHECKS.dueThrow("a wrong one", ARGUMENT, () -> x.read(asked));
            CHECKS.due("behind a wrong one", x.count(0), 0);
            CHECKS.dueThrow("end(0) behind it", STATE, () -> x.end(0));
        }
        ClockTexts full = ofBytes(240);
        CHECKS.dueThrow("a full one", ARGUMENT, () -> full.read(1));
        CHECKS.due("behind a full one", full.feed(0, 0, 0, 0), 16);
    }

    private static void readAnswers() {
        CHECKS.due("SHORT, always", with(new ClockTexts(), "0001020304Z").read(0), 13);
        CHECKS.due("SHORT, of seventeen", with(new ClockTexts(), "000102030405-0000").read(0), 13);
        CHECKS.due("LONG, the shortest", with(new ClockTexts(), "2000010203Z").read(1), 15);
        CHECKS.due("LONG, one digit", with(new ClockTexts(), "20000102030405.1Z").read(1), 17);
        CHECKS.due("LONG, noughts alone",
                with(new ClockTexts(), "2000010203." + Checks.repeat("0", 228) + "Z").read(1), 15);
        ClockTexts x = with(new ClockTexts(), LONGEST);
        CHECKS.due("LONG, the longest", x.read(1), 242);
        CHECKS.due("count(1)", x.count(1), 242);
    }

    private static void readOfNoKind() {
        for (int kind : outside(0, 1)) {
            CHECKS.dueRefused("read(" + kind + "), new", ClockTexts::new, ARGUMENT, x -> x.read(kind));
            CHECKS.dueRefused("read(" + kind + ") behind a time", () -> with(keeping(1), "20010203040506.78Z"),
                    ARGUMENT, x -> x.read(kind));
            CHECKS.dueRefused("read(" + kind + ") behind a fault", () -> with(Checks.faulty(), "2001020304Z"),
                    ARGUMENT, x -> x.read(kind));
        }
        ClockTexts x = with(Checks.faulty(), "0001020304Z");
        CHECKS.dueThrow("read(2)", ARGUMENT, () -> x.read(2));
        CHECKS.due("the fault is as it was", x.fault(), ZONE);
        CHECKS.due("the text is as it was", x.read(0), 13);
    }

    private static ClockTexts behindFault(String wrong) {
        ClockTexts x = with(keeping(1), wrong);
        Checks.answerOf(() -> x.read(1));
        return x;
    }

    private static void readOfFault() {
        String[] wrong = {"x", "2000010203", "0000010100+01"};
        for (int i = 0; i < wrong.length; i++) {
            ClockTexts x = with(keeping(1), wrong[i]);
            CHECKS.dueThrow(wrong[i], ARGUMENT, () -> x.read(1));
            CHECKS.due("fault of " + wrong[i], x.fault(), i + 1);
            CHECKS.due("kept ones stay behind " + wrong[i], x.order(0), 0);
            String text = wrong[i];
            Supplier<ClockTexts> made = () -> behindFault(text);
            CHECKS.dueRefused("seconds behind " + text, made, STATE, ClockTexts::seconds);
            CHECKS.dueRefused("unit behind " + text, made, STATE, y -> y.unit(0));
            CHECKS.dueRefused("again behind " + text, made, STATE, ClockTexts::again);
            CHECKS.dueRefused("keep behind " + text, made, STATE, ClockTexts::keep);
            CHECKS.dueRefused("out behind " + text, made, INDEX, y -> y.out(0));
            CHECKS.due("a right one behind " + text, with(x, "2000010203Z").read(1), 15);
            CHECKS.due("its hour", x.unit(3), 3);
        }
    }

    private static void readOfNothing() {
        for (int kind = 0; kind <= 1; kind++) {
            int asked = kind;
            ClockTexts x = new ClockTexts();
            CHECKS.dueThrow("new, kind " + kind, ARGUMENT, () -> x.read(asked));
            CHECKS.due("its fault", x.fault(), 1);
            Checks.readInto(x, 1, "2000010203Z");
            CHECKS.dueThrow("twice, kind " + kind, ARGUMENT, () -> x.read(asked));
            CHECKS.due("its fault", x.fault(), 1);
            CHECKS.dueThrow("its time is gone", STATE, x::seconds);
        }
    }

    private static void faultOfLatest() {
        ClockTexts x = new ClockTexts();
        String[] texts = {"0000010100+01", "2000010100", "x", "2000010100", "0000010100+01", "x"};
        int[] due = {3, 2, 1, 2, 3, 1};
        for (int i = 0; i < texts.length; i++) {
            Checks.put(x, texts[i]);
            CHECKS.due("before reading " + texts[i], x.fault(), i == 0 ? 0 : due[i - 1]);
            CHECKS.dueThrow("reading " + texts[i], ARGUMENT, () -> x.read(1));
            CHECKS.due("behind reading " + texts[i], x.fault(), due[i]);
            CHECKS.due("asked twice behind " + texts[i], x.fault(), due[i]);
            CHECKS.dueThrow("keep behind " + texts[i], STATE, x::keep);
            CHECKS.dueThrow("no such kind behind " + texts[i], ARGUMENT, () -> x.read(7));
            CHECKS.due("behind refused calls", x.fault(), due[i]);
        }
    }

    private static void faultWithout() {
        ClockTexts x = new ClockTexts();
        CHECKS.due("new", x.fault(), 0);
        CHECKS.dueThrow("no such kind", ARGUMENT, () -> x.read(-1));
        CHECKS.due("new, behind no such kind", x.fault(), 0);
        ClockTexts y = Checks.faulty();
        Checks.readInto(y, 0, "0001020304Z");
        CHECKS.due("behind a right one", y.fault(), 0);
        CHECKS.dueThrow("end", STATE, () -> y.end(0));
        CHECKS.dueThrow("out", INDEX, () -> y.out(13));
        CHECKS.due("behind refused calls", y.fault(), 0);
        y.again();
        CHECKS.due("behind again", y.fault(), 0);
    }

    private static void outOfAll() {
        ClockTexts x = Checks.reading(1, "2000010203." + Checks.repeat("0", 227) + "1Z");
        String due = "20000102030000." + Checks.repeat("0", 224) + "36Z";
        for (int i = 0; i < 242; i++) {
            CHECKS.due("out(" + i + ")", x.out(i), due.charAt(i));
        }
        Checks.put(x, "another text");
        CHECKS.due("a text that comes leaves out(0)", x.out(0), '2');
        CHECKS.due("a text that comes leaves out(241)", x.out(241), 'Z');
    }

    private static void outOfNone() {
        String[] texts = {"0001020304Z", "2000010203.0001Z", LONGEST};
        int[] due = {13, 18, 242};
        for (int t = 0; t < texts.length; t++) {
            int kind = Math.min(t, 1);
            String text = texts[t];
            for (int i : outside(0, due[t] - 1)) {
                CHECKS.dueRefused("out(" + i + ") of " + due[t], () -> Checks.reading(kind, text), INDEX,
                        x -> x.out(i));
            }
        }
        ClockTexts shorter = Checks.reading(1, "2000010203.0001Z");
        Checks.readInto(shorter, 0, "0001020304Z");
        CHECKS.dueThrow("out(13) where more were", INDEX, () -> shorter.out(13));
        CHECKS.dueRefused("out(0) behind a fault", Checks::faulty, INDEX, x -> x.out(0));
        CHECKS.dueRefused("out(0), a text but nothing written", () -> ofBytes(16), INDEX, x -> x.out(0));
    }

    private static void againReplaces() {
        ClockTexts x = Checks.reading(1, "2000010203.0001Z");
        feedNoughts(x, 15);
        CHECKS.due("of a full text", x.again(), 18);
        CHECKS.due("count(0)", x.count(0), 18);
        CHECKS.due("read", x.read(1), 18);
        CHECKS.due("of an empty text", x.again(), 18);
        CHECKS.due("of itself", x.again(), 18);
        CHECKS.due("feed behind it", x.feed(0x5a5a5a5a, 0, 0, 0), 34);
        CHECKS.due("end of what was fed", x.end(0), 18);
        CHECKS.due("end within it", x.end(14), 16);
        Checks.put(x, "4Z");
        CHECKS.due("read with another digit", x.read(1), 18);
        CHECKS.dueText("written", Checks.written(x), "20000102030000.34Z");
    }

    private static void againAnswers() {
        CHECKS.due("LONG, the shortest", Checks.reading(1, "2000010203Z").again(), 15);
        CHECKS.due("LONG, the longest", Checks.reading(1, LONGEST).again(), 242);
        ClockTexts x = Checks.reading(0, "0001020304Z");
        CHECKS.due("SHORT", x.again(), 13);
        CHECKS.due("count(0)", x.count(0), 13);
        CHECKS.dueThrow("thirteen are too few for an end", STATE, () -> x.end(13));
        CHECKS.due("read by its kind", x.read(0), 13);
    }

    private static void againWithout() {
        CHECKS.dueRefused("new", ClockTexts::new, STATE, ClockTexts::again);
        CHECKS.dueRefused("new, with a text", () -> with(new ClockTexts(), "2000010203Z"), STATE, ClockTexts::again);
        CHECKS.dueRefused("behind a fault", () -> with(Checks.faulty(), "2000010203Z"), STATE, ClockTexts::again);
        ClockTexts x = Checks.faulty();
        Checks.readInto(x, 1, "2000010203Z");
        CHECKS.due("with a time again", x.again(), 15);
    }

    private static void secondsEnds() {
        CHECKS.due("the least", Checks.reading(1, "0000010100Z").seconds(), 0);
        CHECKS.due("the most", Checks.reading(1, "99991231235959.9Z").seconds(), 315569519999L);
        CHECKS.due("the least of SHORT", Checks.reading(0, "5001010000Z").seconds(), 61536067200L);
        CHECKS.due("the most of SHORT", Checks.reading(0, "491231235959Z").seconds(), 64691827199L);
        // An int would have wrapped around here.
        CHECKS.due("2^31 - 1", Checks.reading(1, "00680119031407Z").seconds(), 2147483647L);
        CHECKS.due("2^31", Checks.reading(1, "00680119031408Z").seconds(), 2147483648L);
        CHECKS.due("2^32", Checks.reading(1, "01360207062816Z").seconds(), 4294967296L);
    }

    private static void secondsWithout() {
        CHECKS.dueRefused("new", ClockTexts::new, STATE, ClockTexts::seconds);
        CHECKS.dueRefused("with a text", () -> with(new ClockTexts(), "2000010203Z"), STATE, ClockTexts::seconds);
        CHECKS.dueRefused("behind a fault", Checks::faulty, STATE, ClockTexts::seconds);
    }

    private static void dueUnits(String text, int... due) {
        ClockTexts x = Checks.reading(1, text);
        for (int what = 0; what < due.length; what++) {
            CHECKS.due("unit(" + what + ") of " + text, x.unit(what), due[what]);
        }
    }

    private static void unitEnds() {
        dueUnits("0000010100Z", 0, 1, 1, 0, 0, 0, 0, 5);
        dueUnits("99991231235959." + Checks.repeat("9", 224) + "Z", 9999, 12, 31, 23, 59, 59, 224, 4);
        dueUnits("2000010203." + Checks.repeat("0", 227) + "1Z", 2000, 1, 2, 3, 0, 0, 226, 6);
        dueUnits("20000102030405.500Z", 2000, 1, 2, 3, 4, 5, 1, 6);
        dueUnits("20000102030405.000Z", 2000, 1, 2, 3, 4, 5, 0, 6);
        dueUnits("2000010100+0001", 1999, 12, 31, 23, 59, 0, 0, 4);
    }

    private static void unitWeek() {
        // 2024-01-01 was a Monday.
        for (int day = 1; day <= 31; day++) {
            String text = String.format("202401%02d12Z", day);
            CHECKS.due(text, Checks.reading(1, text).unit(7), (day - 1) % 7);
        }
        CHECKS.due("the first of all", Checks.reading(1, "0000010100Z").unit(7), 5);
        CHECKS.due("the last of all", Checks.reading(1, "9999123123Z").unit(7), 4);
        CHECKS.due("Sunday's last second", Checks.reading(1, "20240107235959Z").unit(7), 6);
        CHECKS.due("Monday's first second", Checks.reading(1, "20240108000000Z").unit(7), 0);
        CHECKS.due("Monday there, Sunday at Z", Checks.reading(1, "2024010800+0001").unit(7), 6);
        CHECKS.due("Sunday there, Monday at Z", Checks.reading(1, "202401072359-0001").unit(7), 0);
    }

    private static void unitWithout() {
        for (int what = 0; what <= 7; what++) {
            int asked = what;
            CHECKS.dueRefused("unit(" + what + "), new", ClockTexts::new, STATE, x -> x.unit(asked));
            CHECKS.dueRefused("unit(" + what + ") behind a fault", Checks::faulty, STATE, x -> x.unit(asked));
        }
    }

    private static void unitOfNoSuch() {
        for (int what : outside(0, 7)) {
            CHECKS.dueRefused("unit(" + what + ")", () -> Checks.reading(1, "20000102030405.6Z"), INDEX,
                    x -> x.unit(what));
        }
        CHECKS.due("unit(0)", Checks.reading(1, "20000102030405.6Z").unit(0), 2000);
        CHECKS.due("unit(7)", Checks.reading(1, "20000102030405.6Z").unit(7), 6);
    }

    private static void keepNumbers() {
        ClockTexts x = Checks.reading(1, "2000010203Z");
        for (int number = 0; number < 40; number++) {
            CHECKS.due("the same time, " + number, x.keep(), number);
        }
        ClockTexts y = keeping(1);
        Checks.readInto(y, 1, "1999010203Z");
        CHECKS.due("an earlier one comes behind by number", y.keep(), 1);
        CHECKS.dueThrow("a fault", ARGUMENT, () -> y.read(1));
        Checks.readInto(y, 0, "0001020304Z");
        CHECKS.due("a fault takes no number", y.keep(), 2);
    }

    private static void keepWithout() {
        CHECKS.dueRefused("new", ClockTexts::new, STATE, ClockTexts::keep);
        CHECKS.dueRefused("behind a fault", Checks::faulty, STATE, ClockTexts::keep);
        CHECKS.dueRefused("behind a fault, one kept", () -> behindFault("x"), STATE, ClockTexts::keep);
        ClockTexts x = Checks.faulty();
        CHECKS.dueThrow("keep", STATE, x::keep);
        Checks.readInto(x, 1, "2000010203Z");
        CHECKS.due("the first number is free yet", x.keep(), 0);
    }

    /** Forty times, the last of them the earliest; the time there is earlier than all. */
    private static ClockTexts full() {
        ClockTexts x = keeping(39);
        Checks.readInto(x, 1, "1999010203Z");
        x.keep();
        Checks.readInto(x, 1, "1998010203Z");
        return x;
    }

    private static void keepFull() {
        CHECKS.due("the fortieth", keeping(39).keep(), 39);
        CHECKS.dueRefused("the forty-first", PromiseEdgesTest::full, UNSUPPORTED, ClockTexts::keep);
        ClockTexts x = full();
        for (int i = 0; i < 5; i++) {
            CHECKS.dueThrow("the forty-first, " + i, UNSUPPORTED, x::keep);
        }
        CHECKS.due("count(2)", x.count(2), 40);
        CHECKS.due("the earliest", x.order(0), 39);
        CHECKS.due("the latest", x.order(39), 38);
        CHECKS.due("the time stays", x.unit(0), 1998);
    }

    private static void orderEnds() {
        ClockTexts x = new ClockTexts();
        for (int number = 0; number < 40; number++) {
            // 7 and 40 have no common divisor: every minute comes once.
            Checks.readInto(x, 1, String.format("2000010203%02dZ", number * 7 % 40));
            x.keep();
            CHECKS.due("the earliest of " + (number + 1), x.order(0), 0);
        }
        for (int k = 0; k < 40; k++) {
            CHECKS.due("order(" + k + ")", x.order(k) * 7 % 40, k);
        }
    }

    private static void orderOfNone() {
        for (int size : new int[] {0, 1, 2, 20, 39, 40}) {
            for (int k : outside(0, size - 1)) {
                CHECKS.dueRefused("order(" + k + ") of " + size, () -> keeping(size), INDEX, x -> x.order(k));
            }
            CHECKS.dueThrow("order(40) of " + size, INDEX, () -> keeping(size).order(40));
        }
        for (int size = 1; size <= 40; size++) {
            CHECKS.due("the last one of " + size, keeping(size).order(size - 1), size - 1);
        }
    }

    private static void betweenEnds() {
        ClockTexts x = Checks.reading(1, "0000010100Z");
        x.keep();
        Checks.readInto(x, 1, "99991231235959Z");
        x.keep();
        CHECKS.due("the most", x.between(0, 1), 315569519999L);
        CHECKS.due("the least", x.between(1, 0), -315569519999L);
        CHECKS.due("from a time to itself", x.between(1, 1), 0);
        for (int number = 2; number < 40; number++) {
            x.keep();
        }
        CHECKS.due("the same time by two numbers", x.between(1, 39), 0);
        CHECKS.due("to the fortieth", x.between(0, 39), 315569519999L);
        CHECKS.due("from the fortieth", x.between(39, 0), -315569519999L);
    }

    private static void betweenParts() {
        ClockTexts x = new ClockTexts();
        String[] texts = {"20000102030405.999999Z", "20000102030406Z", "20000102030406.999999Z"};
        for (String text : texts) {
            Checks.readInto(x, 1, text);
            x.keep();
        }
        CHECKS.due("a little more than nothing is a second", x.between(0, 1), 1);
        CHECKS.due("a little less than a second is none", x.between(1, 2), 0);
        CHECKS.due("one second", x.between(0, 2), 1);
        CHECKS.due("backwards", x.between(2, 0), -1);
        CHECKS.due("backwards, a little", x.between(1, 0), -1);
    }

    private static void betweenOfNone() {
        CHECKS.dueRefused("a time that is not kept", () -> keeping(0), INDEX, x -> x.between(0, 0));
        for (int size : new int[] {1, 2, 20, 39, 40}) {
            int last = size - 1;
            for (int wrong : outside(0, last)) {
                CHECKS.dueRefused("from " + wrong + " of " + size, () -> keeping(size), INDEX,
                        x -> x.between(wrong, last));
                CHECKS.dueRefused("to " + wrong + " of " + size, () -> keeping(size), INDEX,
                        x -> x.between(last, wrong));
                CHECKS.dueRefused("both " + wrong + " of " + size, () -> keeping(size), INDEX,
                        x -> x.between(wrong, wrong));
            }
            CHECKS.due("the last one of " + size, keeping(size).between(last, 0), 0);
        }
    }

    private static void countText() {
        ClockTexts x = new ClockTexts();
        CHECKS.due("empty", x.count(0), 0);
        feedNoughts(x, 15);
        CHECKS.due("full", x.count(0), 240);
        CHECKS.dueThrow("more", STATE, () -> x.feed(0, 0, 0, 0));
        CHECKS.due("full yet", x.count(0), 240);
        x.end(0);
        CHECKS.due("less", x.count(0), 224);
        CHECKS.dueThrow("read", ARGUMENT, () -> x.read(0));
        CHECKS.due("read", x.count(0), 0);
    }

    private static void countWritten() {
        ClockTexts x = new ClockTexts();
        CHECKS.due("new", x.count(1), 0);
        Checks.put(x, LONGEST);
        CHECKS.due("not read yet", x.count(1), 0);
        x.read(1);
        CHECKS.due("the longest", x.count(1), 242);
        x.again();
        CHECKS.due("behind again", x.count(1), 242);
        x.end(0);
        CHECKS.due("behind an end", x.count(1), 242);
        CHECKS.dueThrow("read it cut", ARGUMENT, () -> x.read(1));
        CHECKS.due("behind a fault", x.count(1), 0);
    }

    private static void countKept() {
        ClockTexts x = Checks.reading(1, "2000010203Z");
        for (int size = 0; size < 40; size++) {
            CHECKS.due("kept", x.count(2), size);
            x.keep();
        }
        CHECKS.due("full", x.count(2), 40);
        CHECKS.dueThrow("more", UNSUPPORTED, x::keep);
        CHECKS.due("full yet", x.count(2), 40);
    }

    private static void countOther() {
        ClockTexts fresh = new ClockTexts();
        ClockTexts x = keeping(1);
        for (int what : outside(0, 2)) {
            CHECKS.due("count(" + what + "), new", fresh.count(what), -1);
            CHECKS.due("count(" + what + ")", x.count(what), ClockTexts.NONE);
        }
    }
}
