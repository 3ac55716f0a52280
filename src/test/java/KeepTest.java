/** Promises 10 (keep), 11 (order), 12 (between) and 13 (count of kept ones). */
public final class KeepTest {
    private static final Checks CHECKS = new Checks();

    public static void main(String[] args) {
        keepForty();
        keepWithoutTime();
        order();
        orderOfParts();
        orderOfEquals();
        between();
        CHECKS.finish();
    }

    private static void dueOrder(String name, ClockTexts x, int... due) {
        for (int k = 0; k < due.length; k++) {
            CHECKS.due(name + ": order(" + k + ")", x.order(k), due[k]);
        }
        int[] wrong = {-1, due.length, 40, Integer.MIN_VALUE, Integer.MAX_VALUE};
        for (int k : wrong) {
            CHECKS.dueThrow(name + ": order(" + k + ")", IndexOutOfBoundsException.class, () -> x.order(k));
        }
    }

    private static void keepForty() {
        ClockTexts x = new ClockTexts();
        int[] due = new int[40];
        for (int number = 0; number < 40; number++) {
            Checks.readInto(x, 1, String.format("2000010100%02dZ", 40 - number));
            CHECKS.due("10: keep " + number, x.keep(), number);
            CHECKS.due("13: kept", x.count(2), number + 1);
            due[39 - number] = number;
        }
        CHECKS.dueThrow("10: keep, forty there", UnsupportedOperationException.class, x::keep);
        CHECKS.due("13: kept, forty there", x.count(2), 40);
        dueOrder("11: forty backwards", x, due);
        CHECKS.due("12: of forty", x.between(39, 0), 39 * 60);
        Checks.put(x, "x");
        CHECKS.dueThrow("10: read", IllegalArgumentException.class, () -> x.read(1));
        CHECKS.dueThrow("10: no time comes first", IllegalStateException.class, x::keep);
        CHECKS.due("10: a fault leaves the kept ones", x.count(2), 40);
    }

    private static void keepWithoutTime() {
        ClockTexts x = new ClockTexts();
        CHECKS.dueThrow("10: keep, new", IllegalStateException.class, x::keep);
        Checks.readInto(x, 0, "7001010000Z");
        CHECKS.due("10: keep", x.keep(), 0);
        CHECKS.due("10: keep the same", x.keep(), 1);
        Checks.put(x, "7001010000");
        CHECKS.dueThrow("10: read", IllegalArgumentException.class, () -> x.read(0));
        CHECKS.dueThrow("10: keep, fault", IllegalStateException.class, x::keep);
        CHECKS.due("10: kept ones", x.count(2), 2);
    }

    private static void order() {
        ClockTexts x = new ClockTexts();
        dueOrder("11: none", x);
        Checks.readInto(x, 0, "0001010000Z");
        x.keep();
        dueOrder("11: one", x, 0);
        Checks.readInto(x, 1, "0000010100Z");
        x.keep();
        Checks.readInto(x, 1, "99991231235959.9Z");
        x.keep();
        Checks.readInto(x, 0, "5001010000Z");
        x.keep();
        dueOrder("11: both kinds", x, 1, 3, 0, 2);
        Checks.readInto(x, 1, "2000010101+02");
        x.keep();
        dueOrder("11: at Z", x, 1, 3, 4, 0, 2);
    }

    private static void orderOfParts() {
        ClockTexts x = new ClockTexts();
        String[] parts = {"5", "45", "05", "50001", "4999999", "0", "10", "9", "049", "0500000001"};
        for (String part : parts) {
            Checks.readInto(x, 1, "20000101000000." + part + "Z");
            x.keep();
        }
        dueOrder("11: parts", x, 5, 8, 2, 9, 6, 1, 4, 0, 3, 7);
        Checks.readInto(x, 1, "20000101000000Z");
        x.keep();
        Checks.readInto(x, 1, "19991231235959.999999Z");
        x.keep();
        dueOrder("11: parts and seconds", x, 11, 5, 10, 8, 2, 9, 6, 1, 4, 0, 3, 7);
        ClockTexts y = new ClockTexts();
        String nines = Checks.repeat("9", 223);
        for (int last = 3; last >= 0; last--) {
            Checks.readInto(y, 1, "20000101000000." + nines + last + "Z");
            y.keep();
        }
        dueOrder("11: the last digit", y, 3, 2, 1, 0);
    }

    private static void orderOfEquals() {
        ClockTexts x = new ClockTexts();
        Checks.readInto(x, 1, "20000101000030.5Z");
        x.keep();
        Checks.readInto(x, 0, "0001010000Z");
        x.keep();
        Checks.readInto(x, 1, "2000010100Z");
        x.keep();
        Checks.readInto(x, 1, "200001010000.50833333333333Z");
        x.keep();
        Checks.readInto(x, 1, "200001010100,5+01");
        x.keep();
        Checks.readInto(x, 0, "9912312300-0100");
        x.keep();
        Checks.readInto(x, 1, "20000101000030.50000Z");
        x.keep();
        dueOrder("11: the same time", x, 1, 2, 5, 4, 3, 0, 6);
    }

    private static void between() {
        ClockTexts x = new ClockTexts();
        Checks.readInto(x, 1, "0000010100Z");
        x.keep();
        Checks.readInto(x, 1, "99991231235959.9Z");
        x.keep();
        Checks.readInto(x, 1, "00000101000000.9Z");
        x.keep();
        CHECKS.due("12: to the later", x.between(0, 1), 315569519999L);
        CHECKS.due("12: to the earlier", x.between(1, 0), -315569519999L);
        CHECKS.due("12: parts do not count", x.between(2, 1), 315569519999L);
        CHECKS.due("12: parts alone", x.between(0, 2), 0);
        CHECKS.due("12: to itself", x.between(1, 1), 0);
        int[] wrong = {-1, 3, 40, Integer.MIN_VALUE, Integer.MAX_VALUE};
        for (int number : wrong) {
            CHECKS.dueThrow("12: from " + number, IndexOutOfBoundsException.class, () -> x.between(number, 0));
            CHECKS.dueThrow("12: to " + number, IndexOutOfBoundsException.class, () -> x.between(0, number));
            CHECKS.dueThrow("12: both " + number, IndexOutOfBoundsException.class,
                    () -> x.between(number, number));
        }
    }
}
