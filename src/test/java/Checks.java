import java.nio.charset.StandardCharsets;
import java.util.ArrayList;
import java.util.Arrays;
import java.util.List;
import java.util.function.Supplier;
import java.util.function.ToLongFunction;

/** What the tests share: answers that are due, exceptions that are due, texts as feeds. */
final class Checks {
    interface Call {
        long answer();
    }

    private int wrong = 0;
    private int asked = 0;
    private String sentence = "";

    /** A test of its own for one sentence of the document; what it finds is told with the sentence. */
    void sentence(String words, Runnable test) {
        sentence = words;
        int before = asked;
        try {
            test.run();
        } catch (RuntimeException thrown) {
            tell("the test was cut off by " + thrown);
        }
        if (asked == before) {
            tell("the test asks nothing");
        }
        sentence = "";
    }

    void due(String what, long got, long want) {
        asked++;
        if (got != want) {
            tell(what + " answered " + got + ", due is " + want);
        }
    }

    void dueText(String what, String got, String want) {
        asked++;
        if (!got.equals(want)) {
            tell(what + " answered \"" + got + "\", due is \"" + want + "\"");
        }
    }

    /** The class itself is due, not one below it. */
    void dueThrow(String what, Class<? extends RuntimeException> want, Call call) {
        asked++;
        try {
            tell(what + " answered " + call.answer() + ", due is " + want.getSimpleName());
        } catch (RuntimeException thrown) {
            if (thrown.getClass() != want) {
                tell(what + " threw " + thrown + ", due is " + want.getSimpleName());
            }
        }
    }

    void tell(String fault) {
        wrong++;
        System.out.println(sentence.isEmpty() ? fault : "[" + sentence + "] " + fault);
    }

    void finish() {
        System.out.println(wrong == 0 ? asked + " answers are as due" : wrong + " answers are not as due");
        if (wrong != 0) {
            System.exit(1);
        }
    }

    static byte[] bytes(String text) {
        return text.getBytes(StandardCharsets.ISO_8859_1);
    }

    static int word(byte[] sixteen, int from) {
        return (sixteen[from] & 255) << 24 | (sixteen[from + 1] & 255) << 16
                | (sixteen[from + 2] & 255) << 8 | sixteen[from + 3] & 255;
    }

    static int feedSixteen(ClockTexts x, byte[] sixteen) {
        return x.feed(word(sixteen, 0), word(sixteen, 4), word(sixteen, 8), word(sixteen, 12));
    }

    /** Puts a text of at most 240 bytes behind what is there. */
    static void put(ClockTexts x, String text) {
        byte[] all = bytes(text);
        for (int from = 0; from < all.length; from += 16) {
            feedSixteen(x, Arrays.copyOfRange(all, from, from + 16));
            if (all.length - from < 16) {
                x.end(all.length - from);
            }
        }
    }

    static String written(ClockTexts x) {
        StringBuilder all = new StringBuilder();
        int length = x.count(1);
        for (int i = 0; i < length; i++) {
            all.append((char) x.out(i));
        }
        return all.toString();
    }

    static String answerOf(Call call) {
        try {
            return Long.toString(call.answer());
        } catch (RuntimeException thrown) {
            return thrown.getClass().getSimpleName();
        }
    }

    /** All that an object answers; its text is read at last, so the object is used up then. */
    static String allOf(ClockTexts x) {
        List<String> all = new ArrayList<>();
        int kept = x.count(2);
        all.add("counts " + x.count(0) + " " + x.count(1) + " " + kept);
        all.add("fault " + x.fault());
        all.add("written " + written(x));
        for (int what = 0; what <= 7; what++) {
            int asked = what;
            all.add("unit " + answerOf(() -> x.unit(asked)));
        }
        all.add("seconds " + answerOf(x::seconds));
        for (int k = 0; k < kept; k++) {
            all.add("order " + x.order(k) + " at " + x.between(0, k));
        }
        all.add("text read " + answerOf(() -> x.read(1)) + ", fault " + x.fault());
        return all.toString();
    }

    /** A call on an object that is made for it is refused, and leaves all as it was. */
    void dueRefused(String what, Supplier<ClockTexts> made, Class<? extends RuntimeException> want,
            ToLongFunction<ClockTexts> call) {
        ClockTexts x = made.get();
        dueThrow(what, want, () -> call.applyAsLong(x));
        dueText(what + " leaves all as it was", allOf(x), allOf(made.get()));
    }

    /** A new object that has read a text. */
    static ClockTexts reading(int kind, String text) {
        ClockTexts x = new ClockTexts();
        put(x, text);
        x.read(kind);
        return x;
    }

    /** Puts a text behind what is there and reads it; it must be right. */
    static void readInto(ClockTexts x, int kind, String text) {
        put(x, text);
        x.read(kind);
    }

    /** A new object whose latest reading had a fault. */
    static ClockTexts faulty() {
        ClockTexts x = reading(1, "20010203040506.78Z");
        put(x, "2001020304");
        try {
            x.read(1);
        } catch (IllegalArgumentException due) {
            return x;
        }
        throw new IllegalStateException("a text without a zone was read");
    }

    /** Reads a text that must be right, and looks at what is written. */
    void dueWritten(int kind, String text, String want) {
        ClockTexts x = new ClockTexts();
        put(x, text);
        String name = "kind " + kind + " \"" + text + "\"";
        try {
            due(name + ": read", x.read(kind), want.length());
            due(name + ": fault", x.fault(), 0);
            due(name + ": bytes of the text", x.count(0), 0);
            dueText(name + ": written", written(x), want);
        } catch (RuntimeException thrown) {
            tell(name + " threw " + thrown + ", fault " + x.fault() + ", due is \"" + want + "\"");
        }
    }

    /** Reads a text that must have a fault, behind one that was right. */
    void dueFault(int kind, String text, int want) {
        ClockTexts x = reading(0, "7001010000Z");
        put(x, text);
        String name = "kind " + kind + " \"" + text + "\"";
        dueThrow(name + ": read", IllegalArgumentException.class, () -> x.read(kind));
        due(name + ": fault", x.fault(), want);
        due(name + ": bytes of the text", x.count(0), 0);
        due(name + ": bytes written", x.count(1), 0);
        dueThrow(name + ": seconds", IllegalStateException.class, x::seconds);
    }

    static String repeat(String piece, int times) {
        return piece.repeat(times);
    }
}
