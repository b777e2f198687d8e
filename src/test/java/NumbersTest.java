/** Promises 2 to 9: the numbers. */
public final class NumbersTest {
    private static final Check CHECK = new Check("NumbersTest");
    private static final int MIN = Integer.MIN_VALUE;
    private static final int MAX = Integer.MAX_VALUE;

    public static void main(String[] args) {
        startsAtZero();
        promise2set();
        promise3setSmall();
        promise4setEnd();
        promise5move();
        promise6copy();
        promise7ofNumber();
        promise8numberText();
        promise9order();
        CHECK.end();
    }

    private static void startsAtZero() {
        Rangecard x = new Rangecard();
        for (int number = 0; number < 8; number++) {
            CHECK.due("numberText(" + number + ") at first", x.numberText(number), "0");
        }
    }

    private static void promise2set() {
        Rangecard x = new Rangecard();
        CHECK.due("set(0, 1, 2)", x.set(0, 1, 2), 0);
        CHECK.due("text", x.numberText(0), "4294967298");
        CHECK.due("set(0, -1, 0)", x.set(0, -1, 0), 1);
        CHECK.due("text", x.numberText(0), "-4294967296");
        CHECK.due("set(0, 0, -1)", x.set(0, 0, -1), -1);
        CHECK.due("text", x.numberText(0), "4294967295");
        CHECK.due("set(0, 5, MIN)", x.set(0, 5, MIN), 0);
        CHECK.due("text", x.numberText(0), "23622320128");
        CHECK.due("set(0, MIN, 0)", x.set(0, MIN, 0), 5);
        CHECK.due("text", x.numberText(0), "-9223372036854775808");
        CHECK.due("set(0, MAX, -1)", x.set(0, MAX, -1), MIN);
        CHECK.due("text", x.numberText(0), "9223372036854775807");
        CHECK.due("set(0, -1, -1)", x.set(0, -1, -1), MAX);
        CHECK.due("text", x.numberText(0), "-1");
        CHECK.due("set(7, 0, 3)", x.set(7, 0, 3), 0);
        CHECK.due("text of 7", x.numberText(7), "3");
        CHECK.due("text of 6", x.numberText(6), "0");
        for (int bad : Check.noNumbers()) {
            CHECK.outOfBounds(x, "set(" + bad + ", 1, 2)", () -> x.set(bad, 1, 2));
        }
    }

    private static void promise3setSmall() {
        Rangecard x = new Rangecard();
        CHECK.due("setSmall(3, -5)", x.setSmall(3, -5), 0);
        CHECK.due("text", x.numberText(3), "-5");
        CHECK.due("setSmall(3, MAX)", x.setSmall(3, MAX), -5);
        CHECK.due("text", x.numberText(3), "2147483647");
        x.set(3, 9, -7);
        CHECK.due("setSmall(3, MIN)", x.setSmall(3, MIN), -7);
        CHECK.due("text", x.numberText(3), "-2147483648");
        CHECK.due("text of 2", x.numberText(2), "0");
        for (int bad : Check.noNumbers()) {
            CHECK.outOfBounds(x, "setSmall(" + bad + ", 1)", () -> x.setSmall(bad, 1));
        }
    }

    private static void promise4setEnd() {
        Rangecard x = new Rangecard();
        CHECK.due("setEnd(1, 0)", x.setEnd(1, 0), 0);
        CHECK.due("text", x.numberText(1), "-9223372036854775808");
        CHECK.due("setEnd(1, 1)", x.setEnd(1, 1), -1);
        CHECK.due("text", x.numberText(1), "9223372036854775807");
        CHECK.due("setEnd(1, 2)", x.setEnd(1, 2), MIN);
        CHECK.due("text", x.numberText(1), "-2147483648");
        CHECK.due("setEnd(1, 3)", x.setEnd(1, 3), MAX);
        CHECK.due("text", x.numberText(1), "2147483647");
        for (int bad : Check.noNumbers()) {
            CHECK.outOfBounds(x, "setEnd(" + bad + ", 0)", () -> x.setEnd(bad, 0));
            CHECK.outOfBounds(x, "setEnd(" + bad + ", 4)", () -> x.setEnd(bad, 4));
        }
        for (int bad : new int[] {-1, 4, MIN, MAX}) {
            CHECK.badArgument(x, "setEnd(1, " + bad + ")", () -> x.setEnd(1, bad));
        }
    }

    private static void promise5move() {
        Rangecard x = new Rangecard();
        CHECK.due("move(2, 5)", x.move(2, 5), 5);
        CHECK.due("move(2, -7)", x.move(2, -7), -2);
        CHECK.due("text", x.numberText(2), "-2");
        x.set(2, 0, -1);
        CHECK.due("move(2, 1) over LOW", x.move(2, 1), 0);
        CHECK.due("text", x.numberText(2), "4294967296");
        x.setEnd(2, 3);
        CHECK.due("move(2, 1) over 2^31 - 1", x.move(2, 1), MIN);
        CHECK.due("text", x.numberText(2), "2147483648");
        x.setEnd(2, 1);
        CHECK.due("move(2, 1) wraps", x.move(2, 1), 0);
        CHECK.due("text", x.numberText(2), "-9223372036854775808");
        CHECK.due("move(2, -1) wraps back", x.move(2, -1), -1);
        CHECK.due("text", x.numberText(2), "9223372036854775807");
        x.setSmall(2, 0);
        CHECK.due("move(2, MIN)", x.move(2, MIN), MIN);
        CHECK.due("text", x.numberText(2), "-2147483648");
        for (int bad : Check.noNumbers()) {
            CHECK.outOfBounds(x, "move(" + bad + ", 1)", () -> x.move(bad, 1));
        }
    }

    private static void promise6copy() {
        Rangecard x = new Rangecard();
        x.set(4, 3, -2);
        CHECK.due("copy(5, 4)", x.copy(5, 4), -2);
        CHECK.due("text of 5", x.numberText(5), "17179869182");
        CHECK.due("text of 4", x.numberText(4), "17179869182");
        CHECK.due("copy(4, 4)", x.copy(4, 4), -2);
        CHECK.due("text of 4", x.numberText(4), "17179869182");
        x.setSmall(4, 1);
        CHECK.due("text of 5 stays", x.numberText(5), "17179869182");
        for (int bad : Check.noNumbers()) {
            CHECK.outOfBounds(x, "copy(" + bad + ", 0)", () -> x.copy(bad, 0));
            CHECK.outOfBounds(x, "copy(0, " + bad + ")", () -> x.copy(0, bad));
        }
    }

    private static void promise7ofNumber() {
        Rangecard x = new Rangecard();
        x.set(6, -3, 8);
        CHECK.due("ofNumber(6, true)", x.ofNumber(6, true), -3);
        CHECK.due("ofNumber(6, false)", x.ofNumber(6, false), 8);
        x.setSmall(6, -1);
        CHECK.due("HIGH of -1", x.ofNumber(6, true), -1);
        CHECK.due("LOW of -1", x.ofNumber(6, false), -1);
        x.setEnd(6, 3);
        x.move(6, 1);
        CHECK.due("HIGH of 2^31", x.ofNumber(6, true), 0);
        CHECK.due("LOW of 2^31", x.ofNumber(6, false), MIN);
        x.setEnd(6, 2);
        x.move(6, -1);
        CHECK.due("HIGH of -2^31 - 1", x.ofNumber(6, true), -1);
        CHECK.due("LOW of -2^31 - 1", x.ofNumber(6, false), MAX);
        for (int bad : Check.noNumbers()) {
            CHECK.outOfBounds(x, "ofNumber(" + bad + ", true)", () -> x.ofNumber(bad, true));
            CHECK.outOfBounds(x, "ofNumber(" + bad + ", false)", () -> x.ofNumber(bad, false));
        }
    }

    private static void promise8numberText() {
        Rangecard x = new Rangecard();
        for (int value : new int[] {0, 7, -7, 10, -10, 99, 100, -100, 1000000000, MAX, MIN}) {
            x.setSmall(0, value);
            CHECK.due("numberText of " + value, x.numberText(0), Integer.toString(value));
        }
        for (int high : new int[] {1, -2, 12345678, MIN, MAX}) {
            x.set(0, high, 1410065408);
            long whole = high * 4294967296L + 1410065408L;
            CHECK.due("numberText of " + whole, x.numberText(0), Long.toString(whole));
        }
        for (int bad : Check.noNumbers()) {
            CHECK.outOfBounds(x, "numberText(" + bad + ")", () -> x.numberText(bad));
        }
    }

    private static void promise9order() {
        Rangecard x = new Rangecard();
        x.setEnd(0, 0);
        x.setEnd(1, 1);
        x.set(2, 0, -1);
        x.setSmall(3, -1);
        CHECK.due("order(0, 1)", x.order(0, 1), -1);
        CHECK.due("order(1, 0)", x.order(1, 0), 1);
        CHECK.due("order(1, 1)", x.order(1, 1), 0);
        CHECK.due("order of 2^32 - 1 and -1", x.order(2, 3), 1);
        CHECK.due("order of -1 and 2^32 - 1", x.order(3, 2), -1);
        CHECK.due("order of 0 and 0", x.order(4, 5), 0);
        for (int bad : Check.noNumbers()) {
            CHECK.outOfBounds(x, "order(" + bad + ", 0)", () -> x.order(bad, 0));
            CHECK.outOfBounds(x, "order(0, " + bad + ")", () -> x.order(0, bad));
        }
    }
}
