import java.math.BigDecimal;
import java.math.RoundingMode;
import java.time.DateTimeException;
import java.time.LocalDateTime;
import java.time.ZoneOffset;
import java.util.ArrayList;
import java.util.Arrays;
import java.util.Comparator;
import java.util.List;
import java.util.regex.Matcher;
import java.util.regex.Pattern;

/** Long runs of mixed calls, each answer beside that of a model that uses the Java library. */
public final class ModelTest {
    private static final int RUNS = 6000;
    private static final int CALLS = 512;
    // The full look at the end asks for four numbers, 242 bytes and forty kept ones at most.
    private static final int CALLS_OF_LOOK = 4 + 242 + 40;
    private static final int CALLS_OF_STEP = 26;

    private final Checks checks = new Checks();
    private long seed = 20261115L;
    private int run;
    private int calls;
    private ClockTexts x;
    private Model model;

    public static void main(String[] args) {
        ModelTest test = new ModelTest();
        for (int run = 0; run < RUNS; run++) {
            test.run(run);
        }
        test.checks.finish();
    }

    private int below(int bound) {
        seed = seed * 6364136223846793005L + 1442695040888963407L;
        return (int) ((seed >>> 33) % bound);
    }

    private void run(int number) {
        run = number;
        calls = 0;
        x = new ClockTexts();
        model = new Model();
        // Some runs keep until there are forty, others a few times alone.
        int keepers = below(4) == 0 ? 40 : below(8);
        while (calls + CALLS_OF_STEP + CALLS_OF_LOOK <= CALLS) {
            int choice = below(20 + keepers);
            if (choice < 9) {
                putText();
            } else {
                singleCall(choice);
            }
            if (below(3) == 0) {
                compareCounts();
            }
        }
        compareAll();
        if (calls > CALLS) {
            checks.tell(run + ": the run has " + calls + " calls, more than an object is used for");
        }
    }

    private void putText() {
        byte[] all = Checks.bytes(someText());
        for (int from = 0; from < all.length; from += 16) {
            byte[] sixteen = Arrays.copyOfRange(all, from, from + 16);
            compare("feed " + new String(sixteen), () -> Checks.feedSixteen(x, sixteen), () -> model.feed(sixteen));
        }
        int last = all.length % 16;
        if (last > 0) {
            compare("end " + last, () -> x.end(last), () -> model.end(last));
        }
        int kind = below(50) == 0 ? below(5) - 2 : below(2);
        compare("read " + kind, () -> x.read(kind), () -> model.read(kind));
    }

    private void singleCall(int choice) {
        int a = below(45) - 2;
        int b = below(45) - 2;
        if (choice == 9) {
            compare("end " + a, () -> x.end(a), () -> model.end(a));
        } else if (choice == 10) {
            compare("again", x::again, model::again);
        } else if (choice == 11) {
            compare("seconds", x::seconds, model::wholeSeconds);
        } else if (choice == 12) {
            compare("unit " + a % 10, () -> x.unit(a % 10), () -> model.unit(a % 10));
        } else if (choice == 13) {
            compare("order " + a, () -> x.order(a), () -> model.order(a));
        } else if (choice == 14) {
            compare("between " + a + " " + b, () -> x.between(a, b), () -> model.between(a, b));
        } else if (choice == 15) {
            compare("out " + a, () -> x.out(a), () -> model.out(a));
        } else if (choice == 16) {
            compare("read 1", () -> x.read(1), () -> model.read(1));
        } else {
            compare("keep", x::keep, model::keep);
        }
    }

    private void compareCounts() {
        compare("fault", x::fault, () -> model.fault);
        compare("count(0)", () -> x.count(0), () -> model.text.length());
        compare("count(1)", () -> x.count(1), () -> model.written.length());
        compare("count(2)", () -> x.count(2), () -> model.kept.size());
    }

    private void compareAll() {
        compare("fault", x::fault, () -> model.fault);
        for (int i = 0; i < model.written.length(); i++) {
            int at = i;
            compare("out " + i, () -> x.out(at), () -> model.out(at));
        }
        List<Integer> due = model.inOrder();
        for (int k = 0; k < due.size(); k++) {
            int at = k;
            compare("order " + k, () -> x.order(at), () -> due.get(at));
        }
        compare("seconds", x::seconds, model::wholeSeconds);
    }

    private void compare(String name, Checks.Call got, Checks.Call want) {
        calls++;
        checks.dueText(run + ": " + name, Checks.answerOf(got), Checks.answerOf(want));
    }

    private String someText() {
        StringBuilder text = new StringBuilder();
        boolean isLong = below(2) == 0;
        if (isLong) {
            text.append(new String[] {"00", "19", "20", "99", "04", pair(100)}[below(6)]);
        }
        text.append(new String[] {"00", "49", "50", "99", "96", pair(100)}[below(6)]);
        text.append(below(15) == 0 ? pair(20) : String.format("%02d", 1 + below(12)));
        text.append(new String[] {"01", "28", "29", "30", "31", pair(34)}[below(6)]);
        text.append(new String[] {"00", "23", pair(24), pair(25)}[below(4)]);
        if (!isLong || below(3) > 0) {
            text.append(new String[] {"00", "59", pair(60), pair(60), pair(61)}[below(5)]);
            if (below(2) == 0) {
                text.append(new String[] {"00", "59", pair(60), pair(60), pair(61)}[below(5)]);
            }
        }
        if (isLong && below(2) == 0) {
            appendPart(text);
        }
        appendZone(text, isLong);
        if (below(5) == 0) {
            spoil(text);
        }
        return text.toString();
    }

    private String pair(int bound) {
        return String.format("%02d", below(bound));
    }

    private void appendPart(StringBuilder text) {
        text.append(below(2) == 0 ? '.' : ',');
        int digits = below(8) == 0 ? below(235) : below(6);
        int style = below(3);
        for (int i = 0; i < digits; i++) {
            text.append((char) ('0' + (style == 0 ? below(10) : style == 1 ? 9 * below(2) : below(15) / 14)));
        }
        for (int noughts = below(4); noughts > 0; noughts--) {
            text.append('0');
        }
    }

    private void appendZone(StringBuilder text, boolean isLong) {
        int choice = below(12);
        if (choice < 4) {
            text.append('Z');
        } else if (choice < 11) {
            text.append(below(2) == 0 ? '+' : '-');
            text.append(below(3) == 0 ? "00" : pair(below(6) == 0 ? 26 : 24));
            if (!isLong || below(2) == 0) {
                text.append(below(3) == 0 ? "01" : pair(below(6) == 0 ? 62 : 60));
            }
        }
    }

    private void spoil(StringBuilder text) {
        int at = below(text.length());
        char other = "0123456789Z+-.,\0\u00ff/:".charAt(below(19));
        int choice = below(4);
        if (choice == 0) {
            text.setCharAt(at, other);
        } else if (choice == 1) {
            text.deleteCharAt(at);
        } else if (choice == 2) {
            text.insert(at, other);
        } else {
            text.setLength(at);
        }
    }

    private static final class Time {
        LocalDateTime clock;
        String part = "";

        long seconds() {
            return clock.toEpochSecond(ZoneOffset.UTC) + 62167219200L;
        }

        BigDecimal exact() {
            return new BigDecimal(seconds() + "." + part + "0");
        }
    }

    private static final class Model {
        static final Pattern SHORT = Pattern.compile(
                "(\\d\\d)(\\d\\d)(\\d\\d)(\\d\\d)(\\d\\d)(\\d\\d)?()(Z|[+-]\\d{4})", Pattern.DOTALL);
        static final Pattern LONG = Pattern.compile(
                "(\\d{4})(\\d\\d)(\\d\\d)(\\d\\d)(?:(\\d\\d)(\\d\\d)?)?(?:[.,](\\d+))?(Z|[+-]\\d\\d(?:\\d\\d)?)?",
                Pattern.DOTALL);

        String text = "";
        String written = "";
        int fault = 0;
        Time time = null;
        final List<Time> kept = new ArrayList<>();

        int feed(byte[] sixteen) {
            if (text.length() > 224) {
                throw new IllegalStateException();
            }
            for (byte b : sixteen) {
                text += (char) (b & 255);
            }
            return text.length();
        }

        int end(int n) {
            if (n < 0 || n > 16) {
                throw new IllegalArgumentException();
            }
            if (text.length() < 16) {
                throw new IllegalStateException();
            }
            text = text.substring(0, text.length() - 16 + n);
            return text.length();
        }

        int read(int kind) {
            if (kind != 0 && kind != 1) {
                throw new IllegalArgumentException();
            }
            time = new Time();
            fault = faultOf(kind);
            text = "";
            written = "";
            if (fault != 0) {
                time = null;
                throw new IllegalArgumentException();
            }
            written = String.format("%04d%02d%02d%02d%02d%02d%s%sZ", time.clock.getYear(),
                    time.clock.getMonthValue(), time.clock.getDayOfMonth(), time.clock.getHour(),
                    time.clock.getMinute(), time.clock.getSecond(), time.part.isEmpty() ? "" : ".", time.part);
            written = kind == 0 ? written.substring(2) : written;
            return written.length();
        }

        private static int number(String digits) {
            return digits == null ? 0 : Integer.parseInt(digits);
        }

        private int faultOf(int kind) {
            Matcher m = (kind == 0 ? SHORT : LONG).matcher(text);
            if (!m.matches()) {
                return 1;
            }
            int year = number(m.group(1));
            year += kind == 1 ? 0 : year < 50 ? 2000 : 1900;
            try {
                time.clock = LocalDateTime.of(year, number(m.group(2)), number(m.group(3)), number(m.group(4)),
                        number(m.group(5)), number(m.group(6)));
            } catch (DateTimeException wrong) {
                return 1;
            }
            addPart(m.group(7), m.group(5) == null ? 3600 : m.group(6) == null ? 60 : 1);
            if (m.group(8) == null) {
                return 2;
            }
            return moveToZ(m.group(8)) ? yearFault(kind) : 1;
        }

        private void addPart(String digits, int unit) {
            if (digits == null || digits.isEmpty()) {
                return;
            }
            BigDecimal seconds = new BigDecimal("0." + digits).multiply(BigDecimal.valueOf(unit));
            BigDecimal whole = seconds.setScale(0, RoundingMode.FLOOR);
            BigDecimal rest = seconds.subtract(whole).stripTrailingZeros();
            time.clock = time.clock.plusSeconds(whole.longValueExact());
            time.part = rest.signum() == 0 ? "" : rest.toPlainString().substring(2);
        }

        private boolean moveToZ(String zone) {
            if (zone.equals("Z")) {
                return true;
            }
            int hours = number(zone.substring(1, 3));
            int minutes = zone.length() > 3 ? number(zone.substring(3)) : 0;
            int away = hours * 60 + minutes;
            time.clock = time.clock.plusMinutes(zone.charAt(0) == '+' ? -away : away);
            return hours <= 23 && minutes <= 59;
        }

        private int yearFault(int kind) {
            int year = time.clock.getYear();
            boolean fits = kind == 0 ? year >= 1950 && year <= 2049 : year >= 0 && year <= 9999;
            return fits ? 0 : 3;
        }

        int out(int i) {
            if (i < 0 || i >= written.length()) {
                throw new IndexOutOfBoundsException();
            }
            return written.charAt(i);
        }

        int again() {
            needTime();
            text = written;
            return text.length();
        }

        long wholeSeconds() {
            needTime();
            return time.seconds();
        }

        private void needTime() {
            if (time == null) {
                throw new IllegalStateException();
            }
        }

        int unit(int what) {
            needTime();
            LocalDateTime c = time.clock;
            int[] units = {c.getYear(), c.getMonthValue(), c.getDayOfMonth(), c.getHour(), c.getMinute(),
                c.getSecond(), time.part.length(), c.getDayOfWeek().getValue() - 1};
            if (what < 0 || what > 7) {
                throw new IndexOutOfBoundsException();
            }
            return units[what];
        }

        int keep() {
            needTime();
            if (kept.size() == 40) {
                throw new UnsupportedOperationException();
            }
            kept.add(time);
            return kept.size() - 1;
        }

        int order(int k) {
            if (k < 0 || k >= kept.size()) {
                throw new IndexOutOfBoundsException();
            }
            return inOrder().get(k);
        }

        List<Integer> inOrder() {
            List<Integer> numbers = new ArrayList<>();
            for (int i = 0; i < kept.size(); i++) {
                numbers.add(i);
            }
            numbers.sort(Comparator.comparing(n -> kept.get(n).exact()));
            return numbers;
        }

        long between(int a, int b) {
            if (a < 0 || b < 0 || a >= kept.size() || b >= kept.size()) {
                throw new IndexOutOfBoundsException();
            }
            return kept.get(b).seconds() - kept.get(a).seconds();
        }
    }
}
