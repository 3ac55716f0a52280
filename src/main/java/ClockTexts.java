/**
 * Times as texts of two kinds (SHORT and LONG): read, or refused by a named fault; written in one
 * way, at Z; kept ones in the order of time. The promises stand in DOC.md.
 */
public final class ClockTexts {
    public static final int NONE = -1;

    private static final int SHORT_KIND = 0;
    private static final int LONG_KIND = 1;

    private static final int NO_FAULT = 0;
    private static final int TIME_FAULT = 1;
    private static final int ZONE_FAULT = 2;
    private static final int YEAR_FAULT = 3;

    private static final int FEED_BYTES = 16;
    private static final int FED_MOST = 240;
    // A part of an hour is written with four digits more (minute, second) and two less of the part,
    // so what was written, and comes back by again(), may have two bytes more than what was fed.
    private static final int TEXT_MOST = 242;
    private static final int KEPT_MOST = 40;

    private static final int NOUGHT = 48;
    private static final int NINE = 57;
    private static final int LETTER_Z = 90;
    private static final int PLUS = 43;
    private static final int MINUS = 45;
    private static final int POINT = 46;
    private static final int COMMA = 44;

    private static final int HOUR_TOLD = 1;
    private static final int MINUTE_TOLD = 2;
    private static final int SECOND_TOLD = 3;

    private static final int FEBRUARY = 2;
    private static final int DECEMBER = 12;
    private static final int MINUTES_OF_DAY = 1440;
    private static final int[] DAYS_BEFORE_MONTH =
            {0, 31, 59, 90, 120, 151, 181, 212, 243, 273, 304, 334, 365};

    private final ByteRow text;
    private final ByteRow written;
    private final TextReader reader;
    private final Moment moment;
    private final KeptTimes kept;
    private boolean timeThere;
    private int latestFault;

    public ClockTexts() {
        text = new ByteRow();
        written = new ByteRow();
        reader = new TextReader();
        moment = new Moment();
        kept = new KeptTimes();
        timeThere = false;
        latestFault = NO_FAULT;
    }

    public int feed(int a, int b, int c, int d) throws IllegalStateException {
        if (text.length + FEED_BYTES > FED_MOST) {
            throw new IllegalStateException("the text would have more than 240 bytes");
        }
        text.appendFour(a);
        text.appendFour(b);
        text.appendFour(c);
        text.appendFour(d);
        return text.length;
    }

    public int end(int n) throws IllegalArgumentException, IllegalStateException {
        if (n < 0 || n > FEED_BYTES) {
            throw new IllegalArgumentException("of sixteen bytes 0 to 16 can count");
        }
        if (text.length < FEED_BYTES) {
            throw new IllegalStateException("the text has less than sixteen bytes");
        }
        text.length = text.length - FEED_BYTES + n;
        return text.length;
    }

    public int read(int kind) throws IllegalArgumentException {
        if (kind != SHORT_KIND && kind != LONG_KIND) {
            throw new IllegalArgumentException("there is no such kind");
        }
        latestFault = reader.faultOf(text, kind, moment);
        timeThere = latestFault == NO_FAULT;
        text.length = 0;
        written.length = 0;
        if (!timeThere) {
            throw new IllegalArgumentException("the text has a fault");
        }
        writeMoment(kind);
        return written.length;
    }

    public int fault() {
        return latestFault;
    }

    public int out(int i) throws IndexOutOfBoundsException {
        if (i < 0 || i >= written.length) {
            throw new IndexOutOfBoundsException("no such byte was written");
        }
        return written.byteAt(i);
    }

    public int again() throws IllegalStateException {
        if (!timeThere) {
            throw new IllegalStateException("there is no time");
        }
        text.length = 0;
        for (int i = 0; i < written.length; i++) {
            text.append(written.byteAt(i));
        }
        return text.length;
    }

    public long seconds() throws IllegalStateException {
        if (!timeThere) {
            throw new IllegalStateException("there is no time");
        }
        return moment.wholeSeconds();
    }

    public int unit(int what) throws IllegalStateException, IndexOutOfBoundsException {
        if (!timeThere) {
            throw new IllegalStateException("there is no time");
        }
        switch (what) {
            case 0:
                return moment.year;
            case 1:
                return moment.month;
            case 2:
                return moment.day;
            case 3:
                return moment.hour;
            case 4:
                return moment.minute;
            case 5:
                return moment.second;
            case 6:
                return moment.partLength;
            case 7:
                return moment.dayOfWeek();
            default:
                throw new IndexOutOfBoundsException("there is no such unit");
        }
    }

    public int keep() throws IllegalStateException, UnsupportedOperationException {
        if (!timeThere) {
            throw new IllegalStateException("there is no time");
        }
        if (kept.size >= KEPT_MOST) {
            throw new UnsupportedOperationException("forty times are kept");
        }
        return kept.add(moment);
    }

    public int order(int k) throws IndexOutOfBoundsException {
        if (!kept.has(k)) {
            throw new IndexOutOfBoundsException("so many times are not kept");
        }
        return kept.inOrder[k];
    }

    public long between(int a, int b) throws IndexOutOfBoundsException {
        if (!kept.has(a) || !kept.has(b)) {
            throw new IndexOutOfBoundsException("there is no kept time of such a number");
        }
        return kept.wholeSeconds[b] - kept.wholeSeconds[a];
    }

    public int count(int what) {
        switch (what) {
            case 0:
                return text.length;
            case 1:
                return written.length;
            case 2:
                return kept.size;
            default:
                return NONE;
        }
    }

    private void writeMoment(int kind) {
        if (kind == LONG_KIND) {
            written.appendPair(moment.year / 100);
        }
        written.appendPair(moment.year % 100);
        written.appendPair(moment.month);
        written.appendPair(moment.day);
        written.appendPair(moment.hour);
        written.appendPair(moment.minute);
        written.appendPair(moment.second);
        // A SHORT text has no part, so its moment has none either.
        if (moment.partLength > 0) {
            written.append(POINT);
            for (int i = 0; i < moment.partLength; i++) {
                written.append(NOUGHT + moment.part[i]);
            }
        }
        written.append(LETTER_Z);
    }

    private static boolean isLeapYear(int year) {
        return year % 4 == 0 && (year % 100 != 0 || year % 400 == 0);
    }

    private static int daysOfMonth(int year, int month) {
        if (month < 1 || month > DECEMBER) {
            return 0;
        }
        int days = DAYS_BEFORE_MONTH[month] - DAYS_BEFORE_MONTH[month - 1];
        return month == FEBRUARY && isLeapYear(year) ? days + 1 : days;
    }

    /** The bytes of a text, in a row that is made once. */
    private static final class ByteRow {
        private final byte[] bytes;
        private int length;

        ByteRow() {
            bytes = new byte[TEXT_MOST];
            length = 0;
        }

        void append(int value) {
            if (length < bytes.length) {
                bytes[length] = (byte) value;
                length++;
            }
        }

        void appendFour(int word) {
            append(word >>> 24);
            append(word >>> 16);
            append(word >>> 8);
            append(word);
        }

        void appendPair(int value) {
            append(NOUGHT + value / 10);
            append(NOUGHT + value % 10);
        }

        /** NONE where the row has no byte, so that a reader need not ask for the length first. */
        int byteAt(int i) {
            return i >= 0 && i < length ? bytes[i] & 255 : NONE;
        }

        /** The digit's value, NONE where there is no digit. */
        int digitAt(int i) {
            int value = byteAt(i);
            return value >= NOUGHT && value <= NINE ? value - NOUGHT : NONE;
        }
    }

    /** Reads a text from its first byte on; what it tells goes into a moment, moved to Z. */
    private static final class TextReader {
        private int at;
        private int minutesAhead;

        int faultOf(ByteRow text, int kind, Moment into) {
            at = 0;
            minutesAhead = 0;
            into.clearOptional();
            if (!readDate(text, kind, into) || !readClock(text, kind, into)) {
                return TIME_FAULT;
            }
            if (kind == LONG_KIND && at == text.length) {
                return ZONE_FAULT;
            }
            if (!readZone(text, kind) || at != text.length) {
                return TIME_FAULT;
            }
            into.moveBy(-minutesAhead);
            return yearFits(kind, into.year) ? NO_FAULT : YEAR_FAULT;
        }

        private static boolean yearFits(int kind, int year) {
            if (kind == SHORT_KIND) {
                return year >= 1950 && year <= 2049;
            }
            return year >= 0 && year <= 9999;
        }

        private boolean readDate(ByteRow text, int kind, Moment into) {
            into.year = kind == SHORT_KIND ? shortYear(text) : longYear(text);
            if (into.year == NONE) {
                return false;
            }
            into.month = readPair(text, 1, DECEMBER);
            if (into.month == NONE) {
                return false;
            }
            into.day = readPair(text, 1, daysOfMonth(into.year, into.month));
            return into.day != NONE;
        }

        private int shortYear(ByteRow text) {
            int year = readPair(text, 0, 99);
            if (year == NONE) {
                return NONE;
            }
            return year < 50 ? 2000 + year : 1900 + year;
        }

        private int longYear(ByteRow text) {
            int century = readPair(text, 0, 99);
            if (century == NONE) {
                return NONE;
            }
            int year = readPair(text, 0, 99);
            return year == NONE ? NONE : century * 100 + year;
        }

        private boolean readClock(ByteRow text, int kind, Moment into) {
            int lastTold = readUnits(text, into);
            if (lastTold == NONE) {
                return false;
            }
            if (kind == SHORT_KIND) {
                return lastTold >= MINUTE_TOLD;
            }
            int next = text.byteAt(at);
            if (next != POINT && next != COMMA) {
                return true;
            }
            at++;
            return readPart(text, lastTold, into);
        }

        /** Answers the last unit that the text tells, NONE if one of them is wrong. */
        private int readUnits(ByteRow text, Moment into) {
            into.hour = readPair(text, 0, 23);
            if (into.hour == NONE) {
                return NONE;
            }
            if (text.digitAt(at) == NONE) {
                return HOUR_TOLD;
            }
            into.minute = readPair(text, 0, 59);
            if (into.minute == NONE) {
                return NONE;
            }
            if (text.digitAt(at) == NONE) {
                return MINUTE_TOLD;
            }
            into.second = readPair(text, 0, 59);
            return into.second == NONE ? NONE : SECOND_TOLD;
        }

        private boolean readPart(ByteRow text, int lastTold, Moment into) {
            int first = at;
            while (at < text.length && text.digitAt(at) != NONE) {
                into.appendPartDigit(text.digitAt(at));
                at++;
            }
            into.spreadPartOf(lastTold);
            return at > first;
        }

        private boolean readZone(ByteRow text, int kind) {
            int sign = text.byteAt(at);
            at++;
            if (sign == LETTER_Z) {
                return true;
            }
            if (sign != PLUS && sign != MINUS) {
                return false;
            }
            int hours = readPair(text, 0, 23);
            if (hours == NONE) {
                return false;
            }
            int minutes = 0;
            if (kind == SHORT_KIND || text.digitAt(at) != NONE) {
                minutes = readPair(text, 0, 59);
            }
            if (minutes == NONE) {
                return false;
            }
            int away = hours * 60 + minutes;
            minutesAhead = sign == PLUS ? away : -away;
            return true;
        }

        /** Two digits of a value in least .. most; NONE, and nothing is passed, if there are none. */
        private int readPair(ByteRow text, int least, int most) {
            int tens = text.digitAt(at);
            int ones = text.digitAt(at + 1);
            if (tens == NONE || ones == NONE) {
                return NONE;
            }
            int value = tens * 10 + ones;
            if (value < least || value > most) {
                return NONE;
            }
            at += 2;
            return value;
        }
    }

    /** A day and its clock; the part of the second as digits 0 to 9, without noughts at its end. */
    private static final class Moment {
        private int year;
        private int month;
        private int day;
        private int hour;
        private int minute;
        private int second;
        private final byte[] part;
        private int partLength;

        Moment() {
            part = new byte[TEXT_MOST];
        }

        /** Forgets what a text may leave out; all else is told by every right one. */
        void clearOptional() {
            minute = 0;
            second = 0;
            partLength = 0;
        }

        void appendPartDigit(int digit) {
            if (partLength < part.length) {
                part[partLength] = (byte) digit;
                partLength++;
            }
        }

        /** Makes the part of the last unit told whole minutes and seconds and a part of a second. */
        void spreadPartOf(int lastTold) {
            if (lastTold == HOUR_TOLD) {
                minute = takeSixtiethsOfPart();
            }
            if (lastTold != SECOND_TOLD) {
                second = takeSixtiethsOfPart();
            }
            while (partLength > 0 && part[partLength - 1] == 0) {
                partLength--;
            }
        }

        /** The part becomes sixtyfold; the whole of it is answered, the rest stays as the part. */
        private int takeSixtiethsOfPart() {
            int carry = 0;
            for (int i = partLength - 1; i >= 0; i--) {
                int value = part[i] * 60 + carry;
                part[i] = (byte) (value % 10);
                carry = value / 10;
            }
            return carry;
        }

        /** Moves by less than a day; the year may then be -1 or 10000. */
        void moveBy(int minutes) {
            int clock = hour * 60 + minute + minutes;
            if (clock < 0) {
                goDayBack();
                clock += MINUTES_OF_DAY;
            } else if (clock >= MINUTES_OF_DAY) {
                goDayOn();
                clock -= MINUTES_OF_DAY;
            }
            hour = clock / 60;
            minute = clock % 60;
        }

        private void goDayBack() {
            day--;
            if (day > 0) {
                return;
            }
            month--;
            if (month == 0) {
                month = DECEMBER;
                year--;
            }
            day = daysOfMonth(year, month);
        }

        private void goDayOn() {
            day++;
            if (day <= daysOfMonth(year, month)) {
                return;
            }
            day = 1;
            month++;
            if (month > DECEMBER) {
                month = 1;
                year++;
            }
        }

        /** Days from the first day of year 0, which has the number 0. */
        private int dayNumber() {
            // Rounded up, as year 0 itself is one that 4, 100 and 400 divide.
            int leapDays = (year + 3) / 4 - (year + 99) / 100 + (year + 399) / 400;
            int days = year * 365 + leapDays + day - 1;
            if (month >= 1 && month <= DECEMBER) {
                days += DAYS_BEFORE_MONTH[month - 1];
            }
            return month > FEBRUARY && isLeapYear(year) ? days + 1 : days;
        }

        long wholeSeconds() {
            return dayNumber() * 86400L + hour * 3600 + minute * 60 + second;
        }

        int dayOfWeek() {
            // The first day of year 0 was a Saturday, 5.
            return (dayNumber() + 5) % 7;
        }
    }

    /** The kept times by number, and their numbers in the order of time. */
    private static final class KeptTimes {
        private final long[] wholeSeconds;
        private final int[] partLengths;
        // One row for the parts of all, TEXT_MOST digits for each number.
        private final byte[] parts;
        private final int[] inOrder;
        private int size;

        KeptTimes() {
            wholeSeconds = new long[KEPT_MOST];
            partLengths = new int[KEPT_MOST];
            parts = new byte[KEPT_MOST * TEXT_MOST];
            inOrder = new int[KEPT_MOST];
            size = 0;
        }

        boolean has(int number) {
            return number >= 0 && number < size;
        }

        /** NONE when there is no room; the caller refuses that before. */
        int add(Moment moment) {
            if (size >= KEPT_MOST) {
                return NONE;
            }
            int number = size;
            wholeSeconds[number] = moment.wholeSeconds();
            partLengths[number] = moment.partLength;
            System.arraycopy(moment.part, 0, parts, number * TEXT_MOST, moment.partLength);
            int place = size;
            while (place > 0 && isBefore(number, inOrder[place - 1])) {
                inOrder[place] = inOrder[place - 1];
                place--;
            }
            inOrder[place] = number;
            size++;
            return number;
        }

        /** Of the same time neither is before the other: the later number then stays behind. */
        private boolean isBefore(int one, int other) {
            if (wholeSeconds[one] != wholeSeconds[other]) {
                return wholeSeconds[one] < wholeSeconds[other];
            }
            int common = Math.min(partLengths[one], partLengths[other]);
            for (int i = 0; i < common; i++) {
                int digit = parts[one * TEXT_MOST + i];
                int otherDigit = parts[other * TEXT_MOST + i];
                if (digit != otherDigit) {
                    return digit < otherDigit;
                }
            }
            return partLengths[one] < partLengths[other];
        }
    }
}
