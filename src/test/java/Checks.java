import java.nio.charset.StandardCharsets;
import java.util.Arrays;

/** What the tests share: answers that are due, exceptions that are due, texts as feeds. */
final class Checks {
    interface Call {
        long answer();
    }

    private int wrong = 0;
    private int asked = 0;

    void due(String what, long got, long want) {
        asked++;
        if (got != want) {
            tell(what + " answered " + got + ", due is " + want);
        }
    }

    void dueText(String what, String got, String want) {
        asked++;
        if (!got.equals(want)) {
            tell(what + " answered \"" + got + "\", due is \"" + want + "\"");
        }
    }

    /** The class itself is due, not one below it. */
    void dueThrow(String what, Class<? extends RuntimeException> want, Call call) {
        asked++;
        try {
            tell(what + " answered " + call.answer() + ", due is " + want.getSimpleName());
        } catch (RuntimeException thrown) {
            if (thrown.getClass() != want) {
                tell(what + " threw " + thrown + ", due is " + want.getSimpleName());
            }
        }
    }

    void tell(String fault) {
        wrong++;
        System.out.println(fault);
    }

    void finish() {
        System.out.println(wrong == 0 ? asked + " answers are as due" : wrong + " answers are not as due");
        if (wrong != 0) {
            System.exit(1);
        }
    }

    static byte[] bytes(String text) {
        return text.getBytes(StandardCharsets.ISO_8859_1);
    }

    static int word(byte[] sixteen, int from) {
        return (sixteen[from] & 255) << 24 | (sixteen[from + 1] & 255) << 16
                | (sixteen[from + 2] & 255) << 8 | sixteen[from + 3] & 255;
    }

    static int feedSixteen(ClockTexts x, byte[] sixteen) {
        return x.feed(word(sixteen, 0), word(sixteen, 4), word(sixteen, 8), word(sixteen, 12));
    }

    /** Puts a text of at most 240 bytes behind what is there. */
    static void put(ClockTexts x, String text) {
        byte[] all = bytes(text);
        for (int from = 0; from < all.length; from += 16) {
            feedSixteen(x, Arrays.copyOfRange(all, from, from + 16));
            if (all.length - from < 16) {
                x.end(all.length - from);
            }
        }
    }

    static String written(ClockTexts x) {
        StringBuilder all = new StringBuilder();
        for (int i = 0; i < x.count(1); i++) {
            all.append((char) x.out(i));
        }
        return all.toString();
    }

    /** A new object that has read a text. */
    static ClockTexts reading(int kind, String text) {
        ClockTexts x = new ClockTexts();
        put(x, text);
        x.read(kind);
        return x;
    }

    /** Reads a text that must be right, and looks at what is written. */
    void dueWritten(int kind, String text, String want) {
        ClockTexts x = new ClockTexts();
        put(x, text);
        String name = "kind " + kind + " \"" + text + "\"";
        try {
            due(name + ": read", x.read(kind), want.length());
            due(name + ": fault", x.fault(), 0);
            due(name + ": bytes of the text", x.count(0), 0);
            dueText(name + ": written", written(x), want);
        } catch (RuntimeException thrown) {
            tell(name + " threw " + thrown + ", fault " + x.fault() + ", due is \"" + want + "\"");
        }
    }

    /** Reads a text that must have a fault, behind one that was right. */
    void dueFault(int kind, String text, int want) {
        ClockTexts x = reading(0, "7001010000Z");
        put(x, text);
        String name = "kind " + kind + " \"" + text + "\"";
        dueThrow(name + ": read", IllegalArgumentException.class, () -> x.read(kind));
        due(name + ": fault", x.fault(), want);
        due(name + ": bytes of the text", x.count(0), 0);
        due(name + ": bytes written", x.count(1), 0);
        dueThrow(name + ": seconds", IllegalStateException.class, x::seconds);
    }

    static String repeat(String piece, int times) {
        return piece.repeat(times);
    }
}
