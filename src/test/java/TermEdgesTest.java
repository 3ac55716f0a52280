/** The boundary cases that "What it is" and "Terms" name: a test of its own for each such sentence. */
public final class TermEdgesTest {
    private static final int SHORT = 0;
    private static final int LONG = 1;
    private static final int TIME = 1;
    private static final int ZONE = 2;
    private static final int YEAR = 3;
    private static final Checks CHECKS = new Checks();

    public static void main(String[] args) {
        texts();
        units();
        faults();
        times();
        CHECKS.finish();
    }

    private static void texts() {
        CHECKS.sentence("at most 512 calls", TermEdgesTest::manyCalls);
        CHECKS.sentence("at most 512 calls, all of them refused", TermEdgesTest::manyRefused);
        CHECKS.sentence("A TEXT has at most 240 bytes", TermEdgesTest::longestTexts);
        CHECKS.sentence("what again() brings may have two more", TermEdgesTest::longestAgain);
        CHECKS.sentence("digits are 48 to 57", TermEdgesTest::digits);
        CHECKS.sentence("SHORT: year, below 50 it is 2000 more, else 1900", TermEdgesTest::shortYears);
        CHECKS.sentence("SHORT: perhaps second (2)", TermEdgesTest::shortSecond);
        CHECKS.sentence("SHORT: Z, or + or - and hours and minutes (2 each)", TermEdgesTest::shortZone);
        CHECKS.sentence("LONG: year (4)", TermEdgesTest::longYears);
        CHECKS.sentence("LONG: perhaps minute, perhaps behind it second (2 each)", TermEdgesTest::longUnits);
        CHECKS.sentence("LONG: perhaps . or , and one or more digits", TermEdgesTest::partDigits);
        CHECKS.sentence("a PART of the last unit told: an hour", TermEdgesTest::partOfHour);
        CHECKS.sentence("a PART of the last unit told: a minute", TermEdgesTest::partOfMinute);
        CHECKS.sentence("a PART of the last unit told: a second", TermEdgesTest::partOfSecond);
        CHECKS.sentence("a PART of the last unit told: nothing of the text before", TermEdgesTest::partBehindPart);
        CHECKS.sentence("LONG: Z, or + or - and hours (2), perhaps minutes (2)", TermEdgesTest::longZone);
    }

    private static void units() {
        CHECKS.sentence("Months are 1 to 12", TermEdgesTest::months);
        CHECKS.sentence("days those that the month has", TermEdgesTest::days);
        CHECKS.sentence("February has 29 in years that 4 divides", TermEdgesTest::leapByFour);
        CHECKS.sentence("of those that 100 divides only in those that 400 divides",
                TermEdgesTest::leapByHundreds);
        CHECKS.sentence("hours 0 to 23", TermEdgesTest::hours);
        CHECKS.sentence("minutes 0 to 59", TermEdgesTest::minutes);
        CHECKS.sentence("seconds 0 to 59", TermEdgesTest::seconds);
        CHECKS.sentence("(those of the zone, too): hours", TermEdgesTest::zoneHours);
        CHECKS.sentence("(those of the zone, too): minutes", TermEdgesTest::zoneMinutes);
        CHECKS.sentence("The time at Z is that less what + tells", TermEdgesTest::lessPlus);
        CHECKS.sentence("or more by what - tells", TermEdgesTest::moreMinus);
        CHECKS.sentence("The time at Z, across the end of every month", TermEdgesTest::acrossMonths);
    }

    private static void faults() {
        CHECKS.sentence("1 TIME: anything is not so", TermEdgesTest::timeFault);
        CHECKS.sentence("1 TIME: or more bytes", TermEdgesTest::moreBytes);
        CHECKS.sentence("2 ZONE: a LONG text ends where the zone should be", TermEdgesTest::zoneFault);
        CHECKS.sentence("2 ZONE: a LONG text, not a SHORT one", TermEdgesTest::zoneOfShort);
        CHECKS.sentence("3 YEAR: at Z it is not in 1950 to 2049 (SHORT)", TermEdgesTest::yearOfShort);
        CHECKS.sentence("3 YEAR: at Z it is not in 0 to 9999 (LONG)", TermEdgesTest::yearOfLong);
        CHECKS.sentence("Bytes are looked at from the first on; ZONE is told when all before is right",
                TermEdgesTest::zoneIsLater);
        CHECKS.sentence("Bytes are looked at from the first on; YEAR is told when all before is right",
                TermEdgesTest::yearIsLater);
    }

    private static void times() {
        CHECKS.sentence("WRITTEN: SHORT: year (its last two digits) .. second, Z", TermEdgesTest::writtenShort);
        CHECKS.sentence("WRITTEN: LONG: year (4) .. second, Z", TermEdgesTest::writtenLong);
        CHECKS.sentence("WRITTEN: LONG: unless it is 0, . and the part of the second", TermEdgesTest::writtenPart);
        CHECKS.sentence("WRITTEN: LONG: without noughts at its end", TermEdgesTest::writtenNoughts);
        CHECKS.sentence("SECONDS are those from the beginning of year 0", TermEdgesTest::secondsOfYears);
        CHECKS.sentence("SECONDS: without the part", TermEdgesTest::secondsWithoutPart);
        CHECKS.sentence("KEPT times, up to 40, have numbers in the order in which they were kept",
                TermEdgesTest::keptNumbers);
        CHECKS.sentence("ONE COMES BEFORE: its seconds are less", TermEdgesTest::beforeBySeconds);
        CHECKS.sentence("ONE COMES BEFORE: of the same second, the first digit that is lower",
                TermEdgesTest::beforeByDigit);
        CHECKS.sentence("ONE COMES BEFORE: of the same second, or that ends first", TermEdgesTest::beforeByEnd);
        CHECKS.sentence("ONE COMES BEFORE: of the same time the one with the lower number",
                TermEdgesTest::beforeByNumber);
        CHECKS.sentence("Of several exceptions the first one told is thrown: end", TermEdgesTest::firstOfEnd);
        CHECKS.sentence("Of several exceptions the first one told is thrown: unit", TermEdgesTest::firstOfUnit);
        CHECKS.sentence("Of several exceptions the first one told is thrown: keep", TermEdgesTest::firstOfKeep);
        CHECKS.sentence("Of several exceptions the first one told is thrown: read", TermEdgesTest::firstOfRead);
    }

    private static String ones(int times) {
        return Checks.repeat("1", times);
    }

    private static String noughts(int times) {
        return Checks.repeat("0", times);
    }

    private static String pair(int value) {
        return String.format("%02d", value);
    }

    /** Every value of two digits at a place of a text: right in least .. most, else a TIME. */
    private static void duePairs(int kind, String before, String behind, int least, int most) {
        for (int value = 0; value <= 99; value++) {
            String text = before + pair(value) + behind;
            if (value < least || value > most) {
                CHECKS.dueFault(kind, text, TIME);
            } else {
                ClockTexts x = new ClockTexts();
                Checks.put(x, text);
                CHECKS.due("read " + text, x.read(kind), kind == SHORT ? 13 : 15);
            }
        }
    }

    private static void dueUnit(int kind, String text, int what, int due) {
        CHECKS.due("unit(" + what + ") of " + text, Checks.reading(kind, text).unit(what), due);
    }

    private static void manyCalls() {
        ClockTexts x = new ClockTexts();
        int calls = 0;
        // 25 calls a round: 15 feeds, and then the longest text is read twice, kept and asked for.
        for (int round = 0; round < 20; round++) {
            Checks.put(x, "2000010203." + Checks.repeat("9", 226) + pair(99 - round) + "Z");
            // A last digit 5 or 0 leaves one nought more at the end, which is not written.
            CHECKS.due("round " + round + ": read", x.read(1), round % 5 == 4 ? 241 : 242);
            CHECKS.due("round " + round + ": keep", x.keep(), 2 * round);
            int written = x.again();
            CHECKS.due("round " + round + ": read again", x.read(1), written);
            CHECKS.due("round " + round + ": keep again", x.keep(), 2 * round + 1);
            CHECKS.due("round " + round + ": the earliest", x.order(0), 2 * round);
            CHECKS.due("round " + round + ": the latest", x.order(2 * round + 1), 1);
            CHECKS.due("round " + round + ": between", x.between(0, 2 * round), 0);
            CHECKS.due("round " + round + ": fault", x.fault(), 0);
            CHECKS.due("round " + round + ": count", x.count(2), 2 * round + 2);
            calls += 25;
        }
        while (calls < 511) {
            CHECKS.due("call " + calls, x.order(calls % 40), 38 - calls % 40 / 2 * 2 + calls % 2);
            calls++;
        }
        CHECKS.dueThrow("the last call", UnsupportedOperationException.class, x::keep);
    }

    private static void manyRefused() {
        ClockTexts x = new ClockTexts();
        for (int calls = 0; calls < 510; calls += 5) {
            CHECKS.dueThrow("read", IllegalArgumentException.class, () -> x.read(1));
            CHECKS.dueThrow("end", IllegalStateException.class, () -> x.end(16));
            CHECKS.dueThrow("keep", IllegalStateException.class, x::keep);
            CHECKS.dueThrow("out", IndexOutOfBoundsException.class, () -> x.out(0));
            CHECKS.dueThrow("between", IndexOutOfBoundsException.class, () -> x.between(0, 0));
        }
        CHECKS.due("feed", x.feed(0, 0, 0, 0), 16);
        CHECKS.due("the last call", x.count(0), 16);
    }

    private static void longestTexts() {
        CHECKS.dueWritten(LONG, "20000102030405." + ones(224) + "Z", "20000102030405." + ones(224) + "Z");
        CHECKS.dueWritten(LONG, "20000102030405." + ones(222) + "+00", "20000102030405." + ones(222) + "Z");
        CHECKS.dueWritten(LONG, "20000102030405," + ones(220) + "-0000", "20000102030405." + ones(220) + "Z");
        CHECKS.dueWritten(LONG, "2000010203." + noughts(224) + "+0100", "20000102020000Z");
        CHECKS.dueFault(LONG, "20000102030405." + ones(225), ZONE);
        CHECKS.dueFault(LONG, "20000102030405." + ones(224) + "+", TIME);
        CHECKS.dueFault(LONG, "20000102030405." + ones(223) + "+0", TIME);
        CHECKS.dueFault(LONG, "20000102030405." + ones(221) + "+000", TIME);
        CHECKS.dueFault(LONG, "20000102030405Z" + noughts(225), TIME);
        CHECKS.dueFault(SHORT, "000102030405Z" + noughts(227), TIME);
        ClockTexts x = new ClockTexts();
        Checks.put(x, "20000102030405." + ones(224) + "Z");
        CHECKS.dueThrow("more", IllegalStateException.class, () -> x.feed(0, 0, 0, 0));
        CHECKS.due("240", x.count(0), 240);
    }

    private static void longestAgain() {
        int[] units = {10, 12, 14};
        for (int u = 0; u < units.length; u++) {
            String told = "20000102030405".substring(0, units[u]);
            ClockTexts x = Checks.reading(LONG, told + "." + ones(240 - units[u] - 2) + "Z");
            int due = 242 - u;
            CHECKS.due("again, " + told, x.again(), due);
            CHECKS.due("count(0), " + told, x.count(0), due);
            CHECKS.dueThrow("feed, " + told, IllegalStateException.class, () -> x.feed(0, 0, 0, 0));
            CHECKS.due("end(16), " + told, x.end(16), due);
            String written = Checks.written(x);
            CHECKS.due("read, " + told, x.read(LONG), due);
            CHECKS.dueText("written, " + told, Checks.written(x), written);
            CHECKS.due("again and again, " + told, x.again(), due);
            CHECKS.due("end(0), " + told, x.end(0), due - 16);
            if (due > 240) {
                CHECKS.dueThrow("feed behind it, " + told, IllegalStateException.class, () -> x.feed(0, 0, 0, 0));
            } else {
                CHECKS.due("feed behind it, " + told, x.feed(0, 0, 0, 0), 240);
            }
        }
        ClockTexts x = Checks.reading(LONG, "2000010203." + ones(228) + "Z");
        x.again();
        CHECKS.due("end(14)", x.end(14), 240);
        CHECKS.dueThrow("read 240 of it", IllegalArgumentException.class, () -> x.read(LONG));
        CHECKS.due("its fault", x.fault(), ZONE);
        ClockTexts y = Checks.reading(LONG, "2000010203." + ones(228) + "Z");
        y.again();
        CHECKS.dueThrow("read 242 as SHORT", IllegalArgumentException.class, () -> y.read(SHORT));
        CHECKS.due("its fault", y.fault(), TIME);
    }

    private static void digits() {
        String[] rights = {"111111111111+1111", "11111111111111.1+1111"};
        for (int kind = SHORT; kind <= LONG; kind++) {
            for (int i = 0; i < rights[kind].length(); i++) {
                if (rights[kind].charAt(i) != '1') {
                    continue;
                }
                for (int wrong : new int[] {47, 58, 0, 1, 9, 32, 49 + 128, 48 + 128, 57 + 128, 255, 127, 128}) {
                    String text = rights[kind].substring(0, i) + (char) wrong + rights[kind].substring(i + 1);
                    CHECKS.dueFault(kind, text, TIME);
                }
            }
        }
        for (char digit = '0'; digit <= '9'; digit++) {
            dueUnit(LONG, "200" + digit + "01010000Z", 0, 2000 + digit - 48);
            dueUnit(LONG, digit + "00001010000Z", 0, 1000 * (digit - 48));
            dueUnit(LONG, "2000010100000" + digit + "Z", 5, digit - 48);
            CHECKS.due("part " + digit, Checks.reading(LONG, "20000101000000.1" + digit + "1Z").out(16), digit);
        }
    }

    private static void shortYears() {
        for (int year = 0; year <= 99; year++) {
            dueUnit(SHORT, pair(year) + "06150000Z", 0, year < 50 ? 2000 + year : 1900 + year);
        }
    }

    private static void shortSecond() {
        CHECKS.dueWritten(SHORT, "0001020304Z", "000102030400Z");
        CHECKS.dueWritten(SHORT, "000102030400Z", "000102030400Z");
        CHECKS.dueWritten(SHORT, "000102030459+0000", "000102030459Z");
        CHECKS.dueFault(SHORT, "00010203040Z", TIME);
        CHECKS.dueFault(SHORT, "00010203Z", TIME);
        CHECKS.dueFault(SHORT, "000102030Z", TIME);
        CHECKS.dueFault(SHORT, "0001020304050Z", TIME);
        CHECKS.dueFault(SHORT, "00010203040506Z", TIME);
        CHECKS.dueFault(SHORT, "000102030405.0Z", TIME);
        CHECKS.dueFault(SHORT, "000102030405,0Z", TIME);
    }

    private static void shortZone() {
        CHECKS.dueWritten(SHORT, "0001020304+0000", "000102030400Z");
        CHECKS.dueWritten(SHORT, "0001020304-0000", "000102030400Z");
        for (String zone : new String[] {"", "+", "-", "+0", "+00", "-00", "+000", "+00000", "z", "+00Z", "ZZ", "Z0",
            "+0000Z", "*0000", ",0000", ".0000", "Y", "["}) {
            CHECKS.dueFault(SHORT, "0001020304" + zone, TIME);
            CHECKS.dueFault(SHORT, "000102030405" + zone, TIME);
        }
    }

    private static void longYears() {
        for (int year : new int[] {0, 1, 9, 10, 99, 100, 999, 1000, 1949, 1950, 2049, 2050, 9998, 9999}) {
            dueUnit(LONG, String.format("%04d061500Z", year), 0, year);
        }
        CHECKS.dueFault(LONG, "0001130304Z", TIME);
        CHECKS.dueFault(LONG, "199906150Z", TIME);
        CHECKS.dueFault(LONG, "-001061500Z", TIME);
    }

    private static void longUnits() {
        CHECKS.dueWritten(LONG, "2000010203Z", "20000102030000Z");
        CHECKS.dueWritten(LONG, "200001020304Z", "20000102030400Z");
        CHECKS.dueWritten(LONG, "20000102030405Z", "20000102030405Z");
        for (String text : new String[] {"20000102Z", "200001020Z", "20000102030Z", "2000010203040Z",
            "200001020304050Z", "2000010203040506Z", "20000102.5Z", "20000102+00", "20000102"}) {
            CHECKS.dueFault(LONG, text, TIME);
        }
    }

    private static void partDigits() {
        for (String told : new String[] {"2000010203", "200001020304", "20000102030405"}) {
            String due = (told + "0000").substring(0, 14);
            for (String mark : new String[] {".", ","}) {
                CHECKS.dueFault(LONG, told + mark + "Z", TIME);
                CHECKS.dueFault(LONG, told + mark + "+00", TIME);
                CHECKS.dueFault(LONG, told + mark, TIME);
                CHECKS.dueFault(LONG, told + mark + mark + "0Z", TIME);
                CHECKS.dueFault(LONG, told + mark + "0" + mark + "Z", TIME);
                CHECKS.dueWritten(LONG, told + mark + "0Z", due + "Z");
                CHECKS.dueWritten(LONG, told + mark + "0-0000", due + "Z");
                CHECKS.dueWritten(LONG, told + mark + noughts(238 - told.length()) + "Z", due + "Z");
            }
            for (String mark : new String[] {"-", "/", "+", "*", ";", " "}) {
                CHECKS.dueFault(LONG, told + mark + "0Z", TIME);
            }
        }
    }

    private static void partOfHour() {
        CHECKS.dueWritten(LONG, "2000010223.0Z", "20000102230000Z");
        CHECKS.dueWritten(LONG, "2000010223.9Z", "20000102235400Z");
        CHECKS.dueWritten(LONG, "2000010223.9999Z", "20000102235959.64Z");
        CHECKS.dueWritten(LONG, "2000010223.98333Z", "20000102235859.988Z");
        CHECKS.dueWritten(LONG, "2000010223.98334Z", "20000102235900.024Z");
        CHECKS.dueWritten(LONG, "2000010203.00027Z", "20000102030000.972Z");
        CHECKS.dueWritten(LONG, "2000010203.00028Z", "20000102030001.008Z");
        CHECKS.dueWritten(LONG, "2000010203.01666Z", "20000102030059.976Z");
        CHECKS.dueWritten(LONG, "2000010203.01667Z", "20000102030100.012Z");
        CHECKS.dueWritten(LONG, "9999123123." + Checks.repeat("9", 228) + "Z",
                "99991231235959." + Checks.repeat("9", 224) + "64Z");
        CHECKS.dueWritten(LONG, "2000010203." + noughts(227) + "1Z", "20000102030000." + noughts(224) + "36Z");
        CHECKS.dueWritten(LONG, "2000010203." + noughts(227) + "5Z", "20000102030000." + noughts(223) + "18Z");
        CHECKS.dueWritten(LONG, "2000010200.5+0031", "20000101235900Z");
        CHECKS.dueWritten(LONG, "2000010223.5-0030", "20000103000000Z");
    }

    private static void partOfMinute() {
        CHECKS.dueWritten(LONG, "200001022359.0Z", "20000102235900Z");
        CHECKS.dueWritten(LONG, "200001022359.9Z", "20000102235954Z");
        CHECKS.dueWritten(LONG, "200001022359.999Z", "20000102235959.94Z");
        CHECKS.dueWritten(LONG, "200001020304.016Z", "20000102030400.96Z");
        CHECKS.dueWritten(LONG, "200001020304.017Z", "20000102030401.02Z");
        CHECKS.dueWritten(LONG, "999912312359." + Checks.repeat("9", 226) + "Z",
                "99991231235959." + Checks.repeat("9", 224) + "4Z");
        CHECKS.dueWritten(LONG, "200001020304." + noughts(225) + "1Z", "20000102030400." + noughts(224) + "6Z");
        CHECKS.dueWritten(LONG, "200001020304." + noughts(225) + "5Z", "20000102030400." + noughts(223) + "3Z");
        CHECKS.dueWritten(LONG, "200001020000.5+0001", "20000101235930Z");
    }

    private static void partOfSecond() {
        CHECKS.dueWritten(LONG, "20000102235959.0Z", "20000102235959Z");
        CHECKS.dueWritten(LONG, "20000102235959.9Z", "20000102235959.9Z");
        CHECKS.dueWritten(LONG, "99991231235959." + Checks.repeat("9", 224) + "Z",
                "99991231235959." + Checks.repeat("9", 224) + "Z");
        CHECKS.dueWritten(LONG, "20000102030405." + noughts(223) + "1Z", "20000102030405." + noughts(223) + "1Z");
        CHECKS.dueWritten(LONG, "20000102000000.5+0001", "20000101235900.5Z");
    }

    private static void partBehindPart() {
        ClockTexts x = new ClockTexts();
        String[] texts = {"2000010203." + Checks.repeat("9", 228) + "Z", "2000010203.1Z", "200001020304.1Z",
            "20000102030405.1Z", "2000010203Z", "2000010203.01Z"};
        String[] due = {"20000102035959." + Checks.repeat("9", 224) + "64Z", "20000102030600Z", "20000102030406Z",
            "20000102030405.1Z", "20000102030000Z", "20000102030036Z"};
        for (int i = 0; i < texts.length; i++) {
            Checks.readInto(x, LONG, texts[i]);
            CHECKS.dueText(texts[i], Checks.written(x), due[i]);
        }
    }

    private static void longZone() {
        CHECKS.dueWritten(LONG, "2000010203+00", "20000102030000Z");
        CHECKS.dueWritten(LONG, "2000010203-00", "20000102030000Z");
        CHECKS.dueWritten(LONG, "2000010203+0000", "20000102030000Z");
        CHECKS.dueWritten(LONG, "2000010203+01", "20000102020000Z");
        CHECKS.dueWritten(LONG, "2000010203+0001", "20000102025900Z");
        CHECKS.dueWritten(LONG, "2000010203-0100", "20000102040000Z");
        for (String zone : new String[] {"+", "-", "+0", "-0", "+000", "-000", "+00000", "+000000", "+00Z", "+0000Z",
            "+00+00", "Z+00", "ZZ", "z", "*00", "/00", "+.00", "+00.0", "+00,0"}) {
            CHECKS.dueFault(LONG, "2000010203" + zone, TIME);
            CHECKS.dueFault(LONG, "200001020304" + zone, TIME);
            CHECKS.dueFault(LONG, "20000102030405" + zone, TIME);
            CHECKS.dueFault(LONG, "20000102030405.6" + zone, TIME);
        }
    }

    private static void months() {
        duePairs(SHORT, "00", "010000Z", 1, 12);
        duePairs(LONG, "2000", "0100Z", 1, 12);
        dueUnit(LONG, "2000010100Z", 1, 1);
        dueUnit(LONG, "2000120100Z", 1, 12);
    }

    private static void days() {
        int[] days = {31, 28, 31, 30, 31, 30, 31, 31, 30, 31, 30, 31};
        for (int month = 1; month <= 12; month++) {
            duePairs(SHORT, "99" + pair(month), "0000Z", 1, days[month - 1]);
            duePairs(LONG, "2001" + pair(month), "00Z", 1, days[month - 1]);
        }
    }

    private static void dueFebruary(int year, int last) {
        String begin = String.format("%04d02", year);
        CHECKS.dueWritten(LONG, begin + last + "00Z", begin + last + "000000Z");
        CHECKS.dueFault(LONG, begin + (last + 1) + "00Z", TIME);
        CHECKS.dueWritten(LONG, begin + last + "23-01", String.format("%04d0301000000Z", year));
        CHECKS.dueWritten(LONG, String.format("%04d030100+01", year), begin + last + "230000Z");
    }

    private static void leapByFour() {
        for (int year : new int[] {4, 8, 96, 104, 1904, 1996, 2004, 2096, 9996}) {
            dueFebruary(year, 29);
        }
        for (int year : new int[] {1, 2, 3, 5, 98, 99, 101, 1999, 2001, 2002, 2003, 9997, 9998, 9999}) {
            dueFebruary(year, 28);
        }
        for (int year = 0; year <= 99; year++) {
            String text = pair(year) + "02290000Z";
            if (year % 4 == 0) {
                CHECKS.dueWritten(SHORT, text, pair(year) + "0229000000Z");
            } else {
                CHECKS.dueFault(SHORT, text, TIME);
            }
        }
    }

    private static void leapByHundreds() {
        for (int year = 0; year <= 9900; year += 100) {
            dueFebruary(year, year % 400 == 0 ? 29 : 28);
        }
    }

    private static void hours() {
        duePairs(SHORT, "000102", "04Z", 0, 23);
        duePairs(LONG, "20000102", "Z", 0, 23);
        duePairs(LONG, "20000102", ".5Z", 0, 23);
        dueUnit(LONG, "2000010200Z", 3, 0);
        dueUnit(LONG, "2000010223Z", 3, 23);
    }

    private static void minutes() {
        duePairs(SHORT, "00010203", "Z", 0, 59);
        duePairs(SHORT, "00010203", "05Z", 0, 59);
        duePairs(LONG, "2000010203", "Z", 0, 59);
        duePairs(LONG, "2000010203", ".5Z", 0, 59);
        dueUnit(LONG, "200001020300Z", 4, 0);
        dueUnit(LONG, "200001020359Z", 4, 59);
    }

    private static void seconds() {
        duePairs(SHORT, "0001020304", "Z", 0, 59);
        duePairs(LONG, "200001020304", "Z", 0, 59);
        duePairs(LONG, "200001020304", ".0Z", 0, 59);
        dueUnit(LONG, "20000102030400Z", 5, 0);
        dueUnit(LONG, "20000102030459Z", 5, 59);
        CHECKS.dueFault(LONG, "19981231235960Z", TIME);
    }

    private static void zoneHours() {
        for (String sign : new String[] {"+", "-"}) {
            duePairs(SHORT, "0001020304" + sign, "00", 0, 23);
            duePairs(LONG, "2000010203" + sign, "", 0, 23);
            duePairs(LONG, "2000010203" + sign, "00", 0, 23);
        }
    }

    private static void zoneMinutes() {
        for (String sign : new String[] {"+", "-"}) {
            for (String hours : new String[] {"00", "12", "23"}) {
                duePairs(SHORT, "0001020304" + sign + hours, "", 0, 59);
                duePairs(LONG, "2000010203" + sign + hours, "", 0, 59);
            }
        }
    }

    private static void lessPlus() {
        CHECKS.dueWritten(LONG, "20000102030405+0304", "20000102000005Z");
        CHECKS.dueWritten(LONG, "20000102030405+0305", "20000101235905Z");
        CHECKS.dueWritten(LONG, "2000010100+2359", "19991231000100Z");
        CHECKS.dueWritten(LONG, "2000010123+2359", "19991231230100Z");
        CHECKS.dueWritten(LONG, "200001012359+2359", "20000101000000Z");
        CHECKS.dueWritten(LONG, "2000050100+0001", "20000430235900Z");
        CHECKS.dueWritten(LONG, "1900030100+0001", "19000228235900Z");
        CHECKS.dueWritten(LONG, "2000030100+0001", "20000229235900Z");
        CHECKS.dueWritten(SHORT, "0001010000+0001", "991231235900Z");
        dueUnit(SHORT, "0001010000+0001", 0, 1999);
        CHECKS.dueWritten(SHORT, "0001010000+0000", "000101000000Z");
    }

    private static void moreMinus() {
        CHECKS.dueWritten(LONG, "20000102030405-2055", "20000102235905Z");
        CHECKS.dueWritten(LONG, "20000102030405-2056", "20000103000005Z");
        CHECKS.dueWritten(LONG, "1999123123-2359", "20000101225900Z");
        CHECKS.dueWritten(LONG, "19991231235959-2359", "20000101235859Z");
        CHECKS.dueWritten(LONG, "1999123100-2359", "19991231235900Z");
        CHECKS.dueWritten(LONG, "200004302359-0001", "20000501000000Z");
        CHECKS.dueWritten(LONG, "190002282359-0001", "19000301000000Z");
        CHECKS.dueWritten(LONG, "200002282359-0001", "20000229000000Z");
        CHECKS.dueWritten(LONG, "200002292359-0001", "20000301000000Z");
        CHECKS.dueWritten(SHORT, "9912312359-0001", "000101000000Z");
        dueUnit(SHORT, "9912312359-0001", 0, 2000);
        CHECKS.dueWritten(SHORT, "9912312359-0000", "991231235900Z");
    }

    private static void acrossMonths() {
        int[] days = {31, 28, 31, 30, 31, 30, 31, 31, 30, 31, 30, 31};
        for (int month = 1; month <= 12; month++) {
            String last = (month == 12 ? "1999" : "2001") + pair(month) + days[month - 1];
            String first = (month == 12 ? "2000" : "2001") + pair(month % 12 + 1) + "01";
            CHECKS.dueWritten(LONG, last + "2359-0001", first + "000000Z");
            CHECKS.dueWritten(LONG, last + "2358-0001", last + "235900Z");
            CHECKS.dueWritten(LONG, first + "0000+0001", last + "235900Z");
            CHECKS.dueWritten(LONG, first + "0001+0001", first + "000000Z");
            CHECKS.dueWritten(SHORT, last.substring(2) + "2359-0001", first.substring(2) + "000000Z");
            CHECKS.dueWritten(SHORT, first.substring(2) + "0000+0001", last.substring(2) + "235900Z");
        }
    }

    private static void timeFault() {
        String[] rights = {"000102030405+0607", "20000102030405.6+0708"};
        for (int kind = SHORT; kind <= LONG; kind++) {
            String right = rights[kind];
            for (int i = 0; i < right.length(); i++) {
                CHECKS.dueFault(kind, right.substring(0, i) + "x" + right.substring(i + 1), TIME);
                CHECKS.dueFault(kind, right.substring(0, i) + "x" + right.substring(i), TIME);
                CHECKS.dueFault(kind, right.substring(0, i) + "x", TIME);
            }
        }
        CHECKS.dueFault(SHORT, "", TIME);
        CHECKS.dueFault(LONG, "", TIME);
        CHECKS.dueFault(SHORT, "20000102030405Z", TIME);
        CHECKS.dueFault(LONG, "000113030405Z", TIME);
    }

    private static void moreBytes() {
        for (String more : new String[] {"\0", "0", "Z", " ", "\u00ff", "+00", "\n", noughts(16)}) {
            CHECKS.dueFault(SHORT, "0001020304Z" + more, TIME);
            CHECKS.dueFault(SHORT, "000102030405+0607" + more, TIME);
            CHECKS.dueFault(LONG, "2000010203Z" + more, TIME);
            CHECKS.dueFault(LONG, "20000102030405.6+0708" + more, TIME);
        }
        ClockTexts x = new ClockTexts();
        Checks.feedSixteen(x, Checks.bytes("000102030405Z\0\0\0"));
        CHECKS.dueThrow("without end the noughts behind count", IllegalArgumentException.class, () -> x.read(SHORT));
        CHECKS.due("their fault", x.fault(), TIME);
    }

    private static void zoneFault() {
        for (String text : new String[] {"2000010203", "200001020304", "20000102030405", "2000010203.5",
            "200001020304,5", "20000102030405.5", "2000010203." + noughts(229), "0000010100", "9999123123"}) {
            CHECKS.dueFault(LONG, text, ZONE);
        }
        for (String text : new String[] {"2000010203+", "2000010203-", "2000010203+0", "2000010203+000",
            "200001020", "20000102030", "2000010203040", "2000010203.", "20000102", ""}) {
            CHECKS.dueFault(LONG, text, TIME);
        }
    }

    private static void zoneOfShort() {
        for (String text : new String[] {"0001020304", "000102030405", "5001010000", "0001020304+00"}) {
            CHECKS.dueFault(SHORT, text, TIME);
        }
    }

    private static void yearOfShort() {
        CHECKS.dueWritten(SHORT, "500101000000Z", "500101000000Z");
        CHECKS.dueFault(SHORT, "500101000000+0001", YEAR);
        CHECKS.dueFault(SHORT, "500101000059+0001", YEAR);
        CHECKS.dueWritten(SHORT, "500101000100+0001", "500101000000Z");
        CHECKS.dueFault(SHORT, "500101235859+2359", YEAR);
        CHECKS.dueWritten(SHORT, "500101235900+2359", "500101000000Z");
        CHECKS.dueWritten(SHORT, "500102000000+2359", "500101000100Z");
        CHECKS.dueWritten(SHORT, "491231235959Z", "491231235959Z");
        CHECKS.dueFault(SHORT, "491231235959-0001", YEAR);
        CHECKS.dueFault(SHORT, "491231235900-0001", YEAR);
        CHECKS.dueWritten(SHORT, "491231235859-0001", "491231235959Z");
        CHECKS.dueFault(SHORT, "491231000100-2359", YEAR);
        CHECKS.dueWritten(SHORT, "491231000059-2359", "491231235959Z");
        CHECKS.dueWritten(SHORT, "491230235959-2359", "491231235859Z");
        CHECKS.dueWritten(LONG, "19500101000000+0001", "19491231235900Z");
        CHECKS.dueWritten(LONG, "20491231235959-0001", "20500101000059Z");
    }

    private static void yearOfLong() {
        CHECKS.dueWritten(LONG, "0000010100Z", "00000101000000Z");
        CHECKS.dueFault(LONG, "0000010100+0001", YEAR);
        CHECKS.dueFault(LONG, "00000101000059.999+0001", YEAR);
        CHECKS.dueWritten(LONG, "000001010001+0001", "00000101000000Z");
        CHECKS.dueFault(LONG, "0000010100.999+01", YEAR);
        CHECKS.dueFault(LONG, "000001012358.999+2359", YEAR);
        CHECKS.dueWritten(LONG, "000001012359+2359", "00000101000000Z");
        CHECKS.dueWritten(LONG, "0000010200+2359", "00000101000100Z");
        CHECKS.dueWritten(LONG, "99991231235959.9Z", "99991231235959.9Z");
        CHECKS.dueFault(LONG, "99991231235959.9-0001", YEAR);
        CHECKS.dueFault(LONG, "999912312359-0001", YEAR);
        CHECKS.dueWritten(LONG, "99991231235859.9-0001", "99991231235959.9Z");
        CHECKS.dueFault(LONG, "9999123123.5-0030", YEAR);
        CHECKS.dueWritten(LONG, "9999123123.5-0029", "99991231235900Z");
        CHECKS.dueFault(LONG, "999912310001-2359", YEAR);
        CHECKS.dueWritten(LONG, "99991231000059.9-2359", "99991231235959.9Z");
        CHECKS.dueWritten(LONG, "9999123023-2359", "99991231225900Z");
    }

    private static void zoneIsLater() {
        for (String text : new String[] {"2000000203", "2000130203", "2000010003", "2000013203", "1900022903",
            "2000010224", "200001020360", "20000102030460", "20000102036005", "2000010203.", "200001020304,",
            "20000102030405.5.", "200001020x"}) {
            CHECKS.dueFault(LONG, text, TIME);
        }
        CHECKS.dueFault(LONG, "0000010100", ZONE);
        CHECKS.dueFault(LONG, "99991231235959.9", ZONE);
    }

    private static void yearIsLater() {
        CHECKS.dueFault(LONG, "0000010100+0001", YEAR);
        CHECKS.dueFault(LONG, "0000010100+0060", TIME);
        CHECKS.dueFault(LONG, "0000010100+24", TIME);
        CHECKS.dueFault(LONG, "0000010100+010", TIME);
        CHECKS.dueFault(LONG, "0000010100+01Z", TIME);
        CHECKS.dueFault(LONG, "0000010100+01000", TIME);
        CHECKS.dueFault(LONG, "9999123123-01\0", TIME);
        CHECKS.dueFault(LONG, "9999123223-01", TIME);
        CHECKS.dueFault(LONG, "9999123124-01", TIME);
        CHECKS.dueFault(SHORT, "5001010000+0001", YEAR);
        CHECKS.dueFault(SHORT, "5001010000+0001Z", TIME);
        CHECKS.dueFault(SHORT, "5001010000+01", TIME);
        CHECKS.dueFault(SHORT, "5001010060+0100", TIME);
        CHECKS.dueFault(SHORT, "4912312359-2400", TIME);
        CHECKS.dueFault(SHORT, "4912312359-0160", TIME);
    }

    private static void writtenShort() {
        CHECKS.dueWritten(SHORT, "0001010000Z", "000101000000Z");
        CHECKS.dueWritten(SHORT, "0901010000Z", "090101000000Z");
        CHECKS.dueWritten(SHORT, "991231235959Z", "991231235959Z");
        CHECKS.dueWritten(SHORT, "5001010000Z", "500101000000Z");
        CHECKS.dueWritten(SHORT, "491231235959+0000", "491231235959Z");
        ClockTexts x = Checks.reading(LONG, "20000102030405.678Z");
        Checks.readInto(x, SHORT, "0102030405Z");
        CHECKS.dueText("no part of the text before", Checks.written(x), "010203040500Z");
    }

    private static void writtenLong() {
        CHECKS.dueWritten(LONG, "0000010100Z", "00000101000000Z");
        CHECKS.dueWritten(LONG, "0009010100Z", "00090101000000Z");
        CHECKS.dueWritten(LONG, "0099010100Z", "00990101000000Z");
        CHECKS.dueWritten(LONG, "0100010100Z", "01000101000000Z");
        CHECKS.dueWritten(LONG, "0999123123Z", "09991231230000Z");
        CHECKS.dueWritten(LONG, "99991231235959Z", "99991231235959Z");
    }

    private static void writtenPart() {
        CHECKS.dueWritten(LONG, "20000102030405.0Z", "20000102030405Z");
        CHECKS.dueWritten(LONG, "20000102030405,1Z", "20000102030405.1Z");
        CHECKS.dueWritten(LONG, "200001020304.1Z", "20000102030406Z");
        CHECKS.dueWritten(LONG, "2000010203.1Z", "20000102030600Z");
        CHECKS.dueWritten(LONG, "2000010203.0025Z", "20000102030009Z");
        CHECKS.dueWritten(LONG, "2000010203.0001Z", "20000102030000.36Z");
        CHECKS.dueWritten(LONG, "200001020304.05Z", "20000102030403Z");
        CHECKS.dueWritten(LONG, "200001020304.001Z", "20000102030400.06Z");
        ClockTexts x = Checks.reading(LONG, "20000102030405.678Z");
        Checks.readInto(x, LONG, "20000102030405Z");
        CHECKS.dueText("no part of the text before", Checks.written(x), "20000102030405Z");
        Checks.readInto(x, LONG, "2000010203Z");
        CHECKS.dueText("no minute of the text before", Checks.written(x), "20000102030000Z");
    }

    private static void writtenNoughts() {
        CHECKS.dueWritten(LONG, "20000102030405.10Z", "20000102030405.1Z");
        CHECKS.dueWritten(LONG, "20000102030405.010Z", "20000102030405.01Z");
        CHECKS.dueWritten(LONG, "20000102030405.1001000Z", "20000102030405.1001Z");
        CHECKS.dueWritten(LONG, "20000102030405.1" + noughts(223) + "Z", "20000102030405.1Z");
        CHECKS.dueWritten(LONG, "2000010203.00015Z", "20000102030000.54Z");
        CHECKS.dueWritten(LONG, "200001020304.0015Z", "20000102030400.09Z");
    }

    private static void secondsOfYears() {
        long due = 0;
        for (int year = 0; year <= 9999; year++) {
            String begin = String.format("%04d010100Z", year);
            CHECKS.due(begin, Checks.reading(LONG, begin).seconds(), due);
            boolean leap = year % 400 == 0 || year % 4 == 0 && year % 100 != 0;
            due += leap ? 366 * 86400L : 365 * 86400L;
            String last = String.format("%04d1231235959Z", year);
            CHECKS.due(last, Checks.reading(LONG, last).seconds(), due - 1);
        }
        CHECKS.due("across the end of a February", Checks.reading(LONG, "0000030100Z").seconds(), 60 * 86400L);
        CHECKS.due("a day before", Checks.reading(LONG, "0000022900Z").seconds(), 59 * 86400L);
        CHECKS.due("of a year that 100 divides", Checks.reading(LONG, "0100030100Z").seconds()
                - Checks.reading(LONG, "0100022800Z").seconds(), 86400);
    }

    private static void secondsWithoutPart() {
        CHECKS.due("the least", Checks.reading(LONG, "00000101000000." + Checks.repeat("9", 224) + "Z").seconds(), 0);
        CHECKS.due("an hour's part", Checks.reading(LONG, "0000010100.9999Z").seconds(), 3599);
        CHECKS.due("a minute's part", Checks.reading(LONG, "000001010000.9999Z").seconds(), 59);
    }

    private static void keptNumbers() {
        ClockTexts x = new ClockTexts();
        for (int number = 0; number < 40; number++) {
            Checks.readInto(x, LONG, "20000102" + pair(23 - number / 2) + "Z");
            CHECKS.due("keep", x.keep(), number);
        }
        CHECKS.dueThrow("one more", UnsupportedOperationException.class, x::keep);
        for (int number = 0; number < 40; number++) {
            CHECKS.due("from 0 to " + number, x.between(0, number), -3600L * (number / 2));
        }
    }

    /** Keeps LONG texts, which are told in the order of time, backwards and forwards. */
    private static void dueBefore(String... texts) {
        int most = texts.length - 1;
        ClockTexts forwards = new ClockTexts();
        ClockTexts backwards = new ClockTexts();
        for (int i = 0; i <= most; i++) {
            Checks.readInto(forwards, LONG, texts[i]);
            forwards.keep();
            Checks.readInto(backwards, LONG, texts[most - i]);
            backwards.keep();
        }
        for (int k = 0; k <= most; k++) {
            CHECKS.due("forwards, " + texts[k], forwards.order(k), k);
            CHECKS.due("backwards, " + texts[k], backwards.order(k), most - k);
        }
    }

    private static void beforeBySeconds() {
        dueBefore("0000010100Z", "00000101000001Z", "00680119031407Z", "00680119031408Z", "19691231235959Z",
                "19700101000000Z", "20000102030405.9999Z", "20000102030406Z", "20000102030406.1Z",
                "20000102030407Z", "99991231235958.9Z", "99991231235959Z");
        dueBefore("2000010123+23", "2000010101Z", "2000010100-02", "1999123123-04", "2000010104Z");
    }

    private static void beforeByDigit() {
        String before = "20000102030405.";
        dueBefore(before + "01Z", before + "0999Z", before + "1Z", before + "19Z", before + "2Z", before + "8999Z",
                before + "9Z");
        String nines = Checks.repeat("9", 223);
        dueBefore(before + nines + "1Z", before + nines + "2Z", before + nines + "8Z", before + nines + "9Z");
        dueBefore("2000010203.00000000001Z", "2000010203.00000000002Z", "200001020300.0000000013Z");
    }

    private static void beforeByEnd() {
        String before = "20000102030405";
        dueBefore(before + "Z", before + ".0001Z", before + ".001Z", before + ".1Z", before + ".1001Z",
                before + ".10010001Z", before + ".11Z");
        String ones = ones(223);
        dueBefore(before + "Z", before + "." + noughts(223) + "1Z", before + "." + ones + "Z",
                before + "." + ones + "1Z");
    }

    private static void beforeByNumber() {
        String[] same = {"20000102030430.00Z", "200001020304.5Z", "20000102030430Z", "200001020404,50+01",
            "200001020304.500-0000", "20000101030530-2359"};
        ClockTexts x = new ClockTexts();
        for (int number = 0; number < 40; number++) {
            Checks.readInto(x, LONG, same[number % same.length]);
            x.keep();
        }
        for (int k = 0; k < 40; k++) {
            CHECKS.due("order(" + k + ")", x.order(k), k);
        }
        ClockTexts y = Checks.reading(LONG, "20000102030430.1Z");
        y.keep();
        Checks.readInto(y, LONG, "20000102030430Z");
        y.keep();
        Checks.readInto(y, LONG, "20000102030430.10Z");
        y.keep();
        Checks.readInto(y, SHORT, "000102030430Z");
        y.keep();
        int[] due = {1, 3, 0, 2};
        for (int k = 0; k < due.length; k++) {
            CHECKS.due("two times, twice each: order(" + k + ")", y.order(k), due[k]);
        }
    }

    private static void firstOfEnd() {
        ClockTexts x = new ClockTexts();
        for (int n : new int[] {-1, 17, Integer.MIN_VALUE, Integer.MAX_VALUE}) {
            CHECKS.dueThrow("end(" + n + ") of an empty text", IllegalArgumentException.class, () -> x.end(n));
        }
        x.feed(0, 0, 0, 0);
        x.end(15);
        CHECKS.dueThrow("end(17) of fifteen", IllegalArgumentException.class, () -> x.end(17));
        CHECKS.dueThrow("end(16) of fifteen", IllegalStateException.class, () -> x.end(16));
    }

    private static void firstOfUnit() {
        ClockTexts fresh = new ClockTexts();
        ClockTexts faulty = Checks.faulty();
        for (int what : new int[] {-1, 8, Integer.MIN_VALUE, Integer.MAX_VALUE}) {
            CHECKS.dueThrow("unit(" + what + "), new", IllegalStateException.class, () -> fresh.unit(what));
            CHECKS.dueThrow("unit(" + what + ") behind a fault", IllegalStateException.class,
                    () -> faulty.unit(what));
        }
    }

    private static void firstOfKeep() {
        ClockTexts x = Checks.reading(LONG, "2000010203Z");
        for (int number = 0; number < 40; number++) {
            x.keep();
        }
        CHECKS.dueThrow("a time, and forty", UnsupportedOperationException.class, x::keep);
        CHECKS.dueThrow("a fault", IllegalArgumentException.class, () -> x.read(LONG));
        CHECKS.dueThrow("no time, and forty", IllegalStateException.class, x::keep);
    }

    private static void firstOfRead() {
        ClockTexts x = Checks.reading(LONG, "2000010203Z");
        Checks.put(x, "no time at all");
        CHECKS.dueThrow("no such kind, and a fault", IllegalArgumentException.class, () -> x.read(2));
        CHECKS.due("nothing is done: the text", x.count(0), 14);
        CHECKS.due("nothing is done: the time", x.unit(3), 3);
        CHECKS.due("nothing is done: the fault", x.fault(), 0);
    }
}
