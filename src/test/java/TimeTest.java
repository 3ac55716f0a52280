import java.time.LocalDateTime;
import java.time.ZoneOffset;

/** Promises 6 (out), 7 (again), 8 (seconds) and 9 (unit). */
public final class TimeTest {
    private static final Checks CHECKS = new Checks();
    private static final long YEAR_0_TO_1970 = 62167219200L;

    public static void main(String[] args) {
        out();
        again();
        againOfTheLongest();
        withoutTime();
        seconds();
        units();
        unitsOfTheNextText();
        everyDay();
        CHECKS.finish();
    }

    private static void out() {
        ClockTexts x = Checks.reading(1, "2000010203.0001Z");
        String due = "20000102030000.36Z";
        for (int i = 0; i < due.length(); i++) {
            CHECKS.due("6: out(" + i + ")", x.out(i), due.charAt(i));
        }
        int[] wrong = {-1, due.length(), due.length() + 1, 242, Integer.MIN_VALUE, Integer.MAX_VALUE};
        for (int i : wrong) {
            CHECKS.dueThrow("6: out(" + i + ")", IndexOutOfBoundsException.class, () -> x.out(i));
        }
        Checks.put(x, "7001020304Z");
        x.read(0);
        CHECKS.due("6: out(12) of a shorter one", x.out(12), 'Z');
        CHECKS.dueThrow("6: out(13) of a shorter one", IndexOutOfBoundsException.class, () -> x.out(13));
        Checks.put(x, "x");
        CHECKS.dueThrow("6: read", IllegalArgumentException.class, () -> x.read(0));
        CHECKS.dueThrow("6: out(0) behind a fault", IndexOutOfBoundsException.class, () -> x.out(0));
    }

    private static void again() {
        ClockTexts x = Checks.reading(1, "2000010203.0001+01");
        Checks.put(x, "what is there is gone");
        CHECKS.due("7: again", x.again(), 18);
        CHECKS.due("7: bytes of the text", x.count(0), 18);
        CHECKS.due("7: what was written stays", x.count(1), 18);
        CHECKS.due("7: the time stays", x.unit(3), 2);
        CHECKS.due("7: again, twice", x.again(), 18);
        CHECKS.due("7: read", x.read(1), 18);
        CHECKS.dueText("7: written", Checks.written(x), "20000102020000.36Z");
        x.again();
        CHECKS.due("7: feed behind it", x.feed(0, 0, 0, 0), 34);
        CHECKS.due("7: end", x.end(0), 18);
        CHECKS.due("7: end in it", x.end(15), 17);
        CHECKS.dueThrow("7: read it cut", IllegalArgumentException.class, () -> x.read(1));
        CHECKS.due("7: fault of it cut", x.fault(), 2);
        CHECKS.dueThrow("7: again, no time", IllegalStateException.class, x::again);
        Checks.put(x, "7001020304Z");
        x.read(0);
        x.again();
        CHECKS.due("7: of the other kind", x.read(1), 15);
        CHECKS.dueText("7: written, of the other kind", Checks.written(x), "70010203040000Z");
    }

    private static void againOfTheLongest() {
        ClockTexts x = Checks.reading(1, "2000010203." + Checks.repeat("9", 228) + "Z");
        String due = Checks.written(x);
        CHECKS.due("7: again, two more", x.again(), 242);
        CHECKS.dueThrow("7: feed behind two more", IllegalStateException.class, () -> x.feed(0, 0, 0, 0));
        CHECKS.due("7: end(16) behind two more", x.end(16), 242);
        CHECKS.due("7: read two more", x.read(1), 242);
        CHECKS.dueText("7: written, two more", Checks.written(x), due);
        CHECKS.due("7: keep two more", x.keep(), 0);
        CHECKS.due("7: again", x.again(), 242);
        CHECKS.due("7: end(0)", x.end(0), 226);
        CHECKS.dueThrow("7: feed behind 226", IllegalStateException.class, () -> x.feed(0, 0, 0, 0));
        CHECKS.dueThrow("7: read cut", IllegalArgumentException.class, () -> x.read(1));
        CHECKS.due("7: fault of it cut", x.fault(), 2);
    }

    private static void withoutTime() {
        ClockTexts x = Checks.reading(1, "2000010203Z");
        Checks.put(x, "2000010203");
        CHECKS.dueThrow("8: read", IllegalArgumentException.class, () -> x.read(1));
        CHECKS.dueThrow("8: seconds", IllegalStateException.class, x::seconds);
        for (int what = -1; what <= 8; what++) {
            int asked = what;
            CHECKS.dueThrow("9: unit(" + what + ")", IllegalStateException.class, () -> x.unit(asked));
        }
    }

    private static void seconds() {
        CHECKS.due("8: the beginning", Checks.reading(1, "0000010100Z").seconds(), 0);
        CHECKS.due("8: the first second", Checks.reading(1, "00000101000001Z").seconds(), 1);
        CHECKS.due("8: without the part", Checks.reading(1, "00000101000000.9Z").seconds(), 0);
        CHECKS.due("8: year 0 has 366 days", Checks.reading(1, "0001010100Z").seconds(), 366 * 86400L);
        CHECKS.due("8: 1970", Checks.reading(0, "7001010000Z").seconds(), YEAR_0_TO_1970);
        CHECKS.due("8: at Z", Checks.reading(0, "7001010000-0130").seconds(), YEAR_0_TO_1970 + 5400);
        CHECKS.due("8: the last", Checks.reading(1, "99991231235959Z").seconds(), 315569519999L);
    }

    private static void units() {
        ClockTexts x = Checks.reading(1, "20240229133456.7890-0130");
        int[] due = {2024, 2, 29, 15, 4, 56, 3, 3};
        for (int what = 0; what < due.length; what++) {
            CHECKS.due("9: unit(" + what + ")", x.unit(what), due[what]);
        }
        int[] wrong = {-1, 8, Integer.MIN_VALUE, Integer.MAX_VALUE};
        for (int what : wrong) {
            CHECKS.dueThrow("9: unit(" + what + ")", IndexOutOfBoundsException.class, () -> x.unit(what));
        }
        CHECKS.due("9: year of 49", Checks.reading(0, "4901010000Z").unit(0), 2049);
        CHECKS.due("9: year of 50", Checks.reading(0, "5001010000Z").unit(0), 1950);
        CHECKS.due("9: year of 00", Checks.reading(0, "0001010000Z").unit(0), 2000);
        CHECKS.due("9: year of 99", Checks.reading(0, "9901010000Z").unit(0), 1999);
        CHECKS.due("9: the week of year 0", Checks.reading(1, "0000010100Z").unit(7), 5);
        CHECKS.due("9: digits of no part", Checks.reading(1, "20240229133456.000Z").unit(6), 0);
        CHECKS.due("9: digits of an hour's part", Checks.reading(1, "2024022913.00001Z").unit(6), 3);
    }

    private static void unitsOfTheNextText() {
        ClockTexts x = Checks.reading(1, "20240229133456.789Z");
        Checks.put(x, "2023010100Z");
        x.read(1);
        int[] due = {2023, 1, 1, 0, 0, 0, 0, 6};
        for (int what = 0; what < due.length; what++) {
            CHECKS.due("9: unit(" + what + ") of the next text", x.unit(what), due[what]);
        }
    }

    /** The last day of each month of every year, and the day behind it. */
    private static void everyDay() {
        for (int year = 0; year <= 9999; year++) {
            ClockTexts x = new ClockTexts();
            for (int month = 1; month <= 12; month++) {
                LocalDateTime last = LocalDateTime.of(year, month, 1, 22, 59, 58).plusMonths(1).minusDays(1);
                String text = String.format("%04d%02d%02d225958", year, month, last.getDayOfMonth());
                dueDay(x, text + "Z", last);
                if (year < 9999 || month < 12) {
                    dueDay(x, text + "-0101", last.plusMinutes(61));
                }
            }
        }
    }

    private static void dueDay(ClockTexts x, String text, LocalDateTime due) {
        Checks.put(x, text);
        x.read(1);
        CHECKS.due("8: seconds of " + text, x.seconds(), due.toEpochSecond(ZoneOffset.UTC) + YEAR_0_TO_1970);
        CHECKS.due("9: day of " + text, x.unit(2), due.getDayOfMonth());
        CHECKS.due("9: day of the week of " + text, x.unit(7), due.getDayOfWeek().getValue() - 1);
    }
}
