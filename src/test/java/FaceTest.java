import java.lang.reflect.Constructor;
import java.lang.reflect.Field;
import java.lang.reflect.Method;
import java.lang.reflect.Modifier;
import java.util.Arrays;
import java.util.TreeSet;

/** The public face is the document's, and nothing else can be seen from outside. */
public final class FaceTest {
    private static final String[] METHODS = {
        "public int ClockTexts.feed(int,int,int,int) throws java.lang.IllegalStateException",
        "public int ClockTexts.end(int) throws java.lang.IllegalArgumentException,java.lang.IllegalStateException",
        "public int ClockTexts.read(int) throws java.lang.IllegalArgumentException",
        "public int ClockTexts.fault()",
        "public int ClockTexts.out(int) throws java.lang.IndexOutOfBoundsException",
        "public int ClockTexts.again() throws java.lang.IllegalStateException",
        "public long ClockTexts.seconds() throws java.lang.IllegalStateException",
        "public int ClockTexts.unit(int) throws java.lang.IllegalStateException,java.lang.IndexOutOfBoundsException",
        "public int ClockTexts.keep() throws java.lang.IllegalStateException,java.lang.UnsupportedOperationException",
        "public int ClockTexts.order(int) throws java.lang.IndexOutOfBoundsException",
        "public long ClockTexts.between(int,int) throws java.lang.IndexOutOfBoundsException",
        "public int ClockTexts.count(int)",
    };

    public static void main(String[] args) {
        Checks checks = new Checks();
        checks.due("NONE", ClockTexts.NONE, -1);
        checks.due("the class is public and final",
                ClockTexts.class.getModifiers(), Modifier.PUBLIC | Modifier.FINAL);
        TreeSet<String> seen = new TreeSet<>();
        for (Method method : ClockTexts.class.getDeclaredMethods()) {
            if (!Modifier.isPrivate(method.getModifiers())) {
                seen.add(method.toString());
            }
        }
        checks.dueText("methods", seen.toString(), new TreeSet<>(Arrays.asList(METHODS)).toString());
        for (Field field : ClockTexts.class.getDeclaredFields()) {
            if (!Modifier.isPrivate(field.getModifiers())) {
                checks.dueText("field", field.toString(), "public static final int ClockTexts.NONE");
            }
        }
        Constructor<?>[] constructors = ClockTexts.class.getDeclaredConstructors();
        checks.due("constructors", constructors.length, 1);
        checks.dueText("constructor", constructors[0].toString(), "public ClockTexts()");
        checks.finish();
    }
}
