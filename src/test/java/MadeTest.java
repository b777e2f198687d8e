/** Promises 10 to 22: how cards get their ranges and lose them. */
public final class MadeTest {
    private static final Check CHECK = new Check("MadeTest");
    private static final int MIN = Integer.MIN_VALUE;
    private static final int MAX = Integer.MAX_VALUE;
    private static final String FULL = "-9223372036854775808 -9223372036854775808 "
        + "9223372036854775807 9223372036854775807";

    public static void main(String[] args) {
        promise10two();
        promise11three();
        promise12four();
        promise13twoSmall();
        promise14threeSmall();
        promise15fourSmall();
        promise16again();
        promise17same();
        promise18outer();
        promise19inner();
        promise20span();
        promise21shift();
        promise22drop();
        CHECK.end();
    }

    /** NUMBERS 0 to 5 are 0 to 5, 6 is -2^63, 7 is 2^63 - 1. */
    private static Rangecard withNumbers() {
        Rangecard x = new Rangecard();
        for (int number = 0; number < 6; number++) {
            x.setSmall(number, number);
        }
        x.setEnd(6, 0);
        x.setEnd(7, 1);
        return x;
    }

    private static void made(Rangecard x, String call, int got, int card, String text) {
        CHECK.due(call, got, 1);
        CHECK.due(call + " then cardText(" + card + ")", x.cardText(card), text);
    }

    /** The card stays as it is, only -9 is counted. */
    private static void refused(Rangecard x, String call, int card, Check.Call it) {
        String before = x.cardText(card);
        int refusals = x.house(2);
        int made = x.house(4);
        CHECK.due(call, it.answer(), -9);
        CHECK.due(call + " then cardText(" + card + ")", x.cardText(card), before);
        CHECK.due(call + " then house(2)", x.house(2), refusals + 1);
        CHECK.due(call + " then house(4)", x.house(4), made);
    }

    private static void promise10two() {
        Rangecard x = withNumbers();
        made(x, "two(0, 1, 4)", x.two(0, 1, 4), 0, "1 1 4 4");
        made(x, "two(0, 3, 3)", x.two(0, 3, 3), 0, "3 3 3 3");
        made(x, "two(5, 6, 7)", x.two(5, 6, 7), 5, FULL);
        refused(x, "two(0, 4, 3)", 0, () -> x.two(0, 4, 3));
        refused(x, "two(0, 7, 6)", 0, () -> x.two(0, 7, 6));
        refused(x, "two(1, 1, 0) without a range", 1, () -> x.two(1, 1, 0));
        CHECK.due("isThere(1)", x.isThere(1), false);
        x.setSmall(3, 9);
        CHECK.due("a range keeps its ends", x.cardText(0), "3 3 3 3");
        for (int bad : Check.noCards()) {
            CHECK.outOfBounds(x, "two(" + bad + ", 0, 1)", () -> x.two(bad, 0, 1));
            CHECK.outOfBounds(x, "two(" + bad + ", 1, 0)", () -> x.two(bad, 1, 0));
        }
        for (int bad : Check.noNumbers()) {
            CHECK.outOfBounds(x, "two(0, " + bad + ", 1)", () -> x.two(0, bad, 1));
            CHECK.outOfBounds(x, "two(0, 1, " + bad + ")", () -> x.two(0, 1, bad));
        }
    }

    private static void promise11three() {
        Rangecard x = withNumbers();
        made(x, "three(0, 1, 2, 4)", x.three(0, 1, 2, 4), 0, "1 1 2 4");
        made(x, "three(0, 1, 1, 1)", x.three(0, 1, 1, 1), 0, "1 1 1 1");
        made(x, "three(5, 6, 6, 7)", x.three(5, 6, 6, 7), 5,
            "-9223372036854775808 -9223372036854775808 -9223372036854775808 9223372036854775807");
        refused(x, "three(0, 2, 1, 4)", 0, () -> x.three(0, 2, 1, 4));
        refused(x, "three(0, 1, 4, 2)", 0, () -> x.three(0, 1, 4, 2));
        refused(x, "three(0, 4, 2, 1)", 0, () -> x.three(0, 4, 2, 1));
        for (int bad : Check.noCards()) {
            CHECK.outOfBounds(x, "three(" + bad + ", 0, 1, 2)", () -> x.three(bad, 0, 1, 2));
        }
        for (int bad : Check.noNumbers()) {
            CHECK.outOfBounds(x, "three(0, " + bad + ", 1, 2)", () -> x.three(0, bad, 1, 2));
            CHECK.outOfBounds(x, "three(0, 2, " + bad + ", 1)", () -> x.three(0, 2, bad, 1));
            CHECK.outOfBounds(x, "three(0, 1, 2, " + bad + ")", () -> x.three(0, 1, 2, bad));
        }
    }

    private static void promise12four() {
        Rangecard x = withNumbers();
        made(x, "four(0, 1, 2, 3, 4)", x.four(0, 1, 2, 3, 4), 0, "1 2 3 4");
        made(x, "four(0, 1, 3, 2, 4) with LEAST AT MOST above", x.four(0, 1, 3, 2, 4), 0, "1 3 2 4");
        made(x, "four(0, 1, 4, 1, 4)", x.four(0, 1, 4, 1, 4), 0, "1 4 1 4");
        made(x, "four(5, 6, 6, 7, 7)", x.four(5, 6, 6, 7, 7), 5, FULL);
        refused(x, "four(0, 2, 1, 3, 4): LEAST above LEAST AT MOST", 0, () -> x.four(0, 2, 1, 3, 4));
        refused(x, "four(0, 1, 2, 4, 3): GREATEST AT LEAST above GREATEST", 0, () -> x.four(0, 1, 2, 4, 3));
        refused(x, "four(0, 2, 3, 1, 4): LEAST above GREATEST AT LEAST", 0, () -> x.four(0, 2, 3, 1, 4));
        refused(x, "four(0, 1, 4, 2, 3): LEAST AT MOST above GREATEST", 0, () -> x.four(0, 1, 4, 2, 3));
        for (int bad : Check.noCards()) {
            CHECK.outOfBounds(x, "four(" + bad + ", 0, 1, 2, 3)", () -> x.four(bad, 0, 1, 2, 3));
        }
        for (int bad : Check.noNumbers()) {
            CHECK.outOfBounds(x, "four(0, " + bad + ", 1, 2, 3)", () -> x.four(0, bad, 1, 2, 3));
            CHECK.outOfBounds(x, "four(0, 3, " + bad + ", 2, 1)", () -> x.four(0, 3, bad, 2, 1));
            CHECK.outOfBounds(x, "four(0, 1, 2, " + bad + ", 3)", () -> x.four(0, 1, 2, bad, 3));
            CHECK.outOfBounds(x, "four(0, 1, 2, 3, " + bad + ")", () -> x.four(0, 1, 2, 3, bad));
        }
    }

    private static void promise13twoSmall() {
        Rangecard x = new Rangecard();
        made(x, "twoSmall(0, -3, 5)", x.twoSmall(0, -3, 5), 0, "-3 -3 5 5");
        made(x, "twoSmall(5, MIN, MAX)", x.twoSmall(5, MIN, MAX), 5,
            "-2147483648 -2147483648 2147483647 2147483647");
        made(x, "twoSmall(1, 8, 8)", x.twoSmall(1, 8, 8), 1, "8 8 8 8");
        refused(x, "twoSmall(0, 5, 4)", 0, () -> x.twoSmall(0, 5, 4));
        refused(x, "twoSmall(0, MAX, MIN)", 0, () -> x.twoSmall(0, MAX, MIN));
        for (int bad : Check.noCards()) {
            CHECK.outOfBounds(x, "twoSmall(" + bad + ", 0, 1)", () -> x.twoSmall(bad, 0, 1));
            CHECK.outOfBounds(x, "twoSmall(" + bad + ", 1, 0)", () -> x.twoSmall(bad, 1, 0));
        }
    }

    private static void promise14threeSmall() {
        Rangecard x = new Rangecard();
        made(x, "threeSmall(0, -3, 5, 9)", x.threeSmall(0, -3, 5, 9), 0, "-3 -3 5 9");
        made(x, "threeSmall(5, MIN, 0, MAX)", x.threeSmall(5, MIN, 0, MAX), 5, "-2147483648 -2147483648 0 2147483647");
        made(x, "threeSmall(1, 8, 8, 8)", x.threeSmall(1, 8, 8, 8), 1, "8 8 8 8");
        refused(x, "threeSmall(0, 5, 4, 6)", 0, () -> x.threeSmall(0, 5, 4, 6));
        refused(x, "threeSmall(0, 4, 6, 5)", 0, () -> x.threeSmall(0, 4, 6, 5));
        for (int bad : Check.noCards()) {
            CHECK.outOfBounds(x, "threeSmall(" + bad + ", 0, 1, 2)", () -> x.threeSmall(bad, 0, 1, 2));
        }
    }

    private static void promise15fourSmall() {
        Rangecard x = new Rangecard();
        made(x, "fourSmall(0, -3, 5, 6, 9)", x.fourSmall(0, -3, 5, 6, 9), 0, "-3 5 6 9");
        made(x, "fourSmall(0, -3, 9, -3, 9)", x.fourSmall(0, -3, 9, -3, 9), 0, "-3 9 -3 9");
        made(x, "fourSmall(5, MIN, 0, 1, MAX)", x.fourSmall(5, MIN, 0, 1, MAX), 5, "-2147483648 0 1 2147483647");
        refused(x, "fourSmall(0, 2, 1, 3, 4)", 0, () -> x.fourSmall(0, 2, 1, 3, 4));
        refused(x, "fourSmall(0, 1, 2, 4, 3)", 0, () -> x.fourSmall(0, 1, 2, 4, 3));
        refused(x, "fourSmall(0, 2, 3, 1, 4)", 0, () -> x.fourSmall(0, 2, 3, 1, 4));
        refused(x, "fourSmall(0, 1, 4, 2, 3)", 0, () -> x.fourSmall(0, 1, 4, 2, 3));
        for (int bad : Check.noCards()) {
            CHECK.outOfBounds(x, "fourSmall(" + bad + ", 0, 1, 2, 3)", () -> x.fourSmall(bad, 0, 1, 2, 3));
        }
    }

    private static void promise16again() {
        Rangecard x = withNumbers();
        x.fourSmall(0, MIN, 2, 3, MAX);
        CHECK.due("again(1, 0) of four small ends", x.again(1, 0), 4);
        CHECK.due("cardText(1)", x.cardText(1), "-2147483648 2 3 2147483647");
        CHECK.due("cardText(0)", x.cardText(0), "-2147483648 2 3 2147483647");
        CHECK.due("again(0, 0)", x.again(0, 0), 4);
        x.four(2, 6, 6, 7, 7);
        CHECK.due("again(1, 2) of no small ends", x.again(1, 2), 0);
        CHECK.due("cardText(1)", x.cardText(1), FULL);
        x.setEnd(0, 2);
        x.move(0, -1);
        x.setEnd(1, 3);
        x.move(1, 1);
        x.four(2, 0, 3, 4, 1);
        CHECK.due("again(3, 2) with the outer ends just beyond", x.again(3, 2), 2);
        x.four(2, 4, 5, 5, 1);
        CHECK.due("again(3, 2) with one end just beyond", x.again(3, 2), 3);
        CHECK.due("house(4) counts each", x.house(4), 9);
        CHECK.badState(x, "again(0, 5) of none", () -> x.again(0, 5));
        CHECK.badState(x, "again(5, 5) of none", () -> x.again(5, 5));
        for (int bad : Check.noCards()) {
            CHECK.outOfBounds(x, "again(" + bad + ", 0)", () -> x.again(bad, 0));
            CHECK.outOfBounds(x, "again(" + bad + ", 5)", () -> x.again(bad, 5));
            CHECK.outOfBounds(x, "again(0, " + bad + ")", () -> x.again(0, bad));
        }
    }

    private static void promise17same() {
        Rangecard x = new Rangecard();
        x.fourSmall(0, 1, 2, 3, 4);
        x.fourSmall(1, 1, 2, 3, 4);
        CHECK.due("same(2, 0) without one", x.same(2, 0), -1);
        CHECK.due("cardText(2)", x.cardText(2), "1 2 3 4");
        CHECK.due("same(1, 0) with the same", x.same(1, 0), 1);
        CHECK.due("same(0, 0)", x.same(0, 0), 1);
        String[] others = {"0 2 3 4", "1 1 3 4", "1 2 2 4", "1 2 3 5"};
        int[][] ends = {{0, 2, 3, 4}, {1, 1, 3, 4}, {1, 2, 2, 4}, {1, 2, 3, 5}};
        for (int i = 0; i < ends.length; i++) {
            x.fourSmall(3, ends[i][0], ends[i][1], ends[i][2], ends[i][3]);
            CHECK.due("same(3, 0) with " + others[i], x.same(3, 0), 0);
            CHECK.due("cardText(3)", x.cardText(3), "1 2 3 4");
        }
        x.shift(0, 1);
        CHECK.due("the one that is given stays", x.cardText(3), "1 2 3 4");
        CHECK.due("house(4) counts none of these", x.house(4), 7);
        CHECK.due("house(2) does not count NONE", x.house(2), 0);
        CHECK.badState(x, "same(0, 5) of none", () -> x.same(0, 5));
        CHECK.badState(x, "same(5, 5) of none", () -> x.same(5, 5));
        for (int bad : Check.noCards()) {
            CHECK.outOfBounds(x, "same(" + bad + ", 0)", () -> x.same(bad, 0));
            CHECK.outOfBounds(x, "same(" + bad + ", 5)", () -> x.same(bad, 5));
            CHECK.outOfBounds(x, "same(0, " + bad + ")", () -> x.same(0, bad));
        }
    }

    private static void promise18outer() {
        Rangecard x = new Rangecard();
        x.fourSmall(0, 1, 3, 2, 4);
        CHECK.due("outer(1, 0)", x.outer(1, 0), 0);
        CHECK.due("cardText(1)", x.cardText(1), "1 1 4 4");
        CHECK.due("cardText(0)", x.cardText(0), "1 3 2 4");
        CHECK.due("outer(2, 1) of a fixed one", x.outer(2, 1), 1);
        CHECK.due("outer(0, 0) tells of what was", x.outer(0, 0), 0);
        CHECK.due("cardText(0)", x.cardText(0), "1 1 4 4");
        CHECK.due("outer(0, 0) again", x.outer(0, 0), 1);
        x.fourSmall(3, 1, 1, 3, 4);
        CHECK.due("outer(4, 3) with an open greatest", x.outer(4, 3), 0);
        x.fourSmall(3, 1, 2, 4, 4);
        CHECK.due("outer(4, 3) with an open least", x.outer(4, 3), 0);
        CHECK.due("house(4) counts each", x.house(4), 9);
        CHECK.badState(x, "outer(0, 5) of none", () -> x.outer(0, 5));
        for (int bad : Check.noCards()) {
            CHECK.outOfBounds(x, "outer(" + bad + ", 0)", () -> x.outer(bad, 0));
            CHECK.outOfBounds(x, "outer(" + bad + ", 5)", () -> x.outer(bad, 5));
            CHECK.outOfBounds(x, "outer(0, " + bad + ")", () -> x.outer(0, bad));
        }
    }

    private static void promise19inner() {
        Rangecard x = new Rangecard();
        x.fourSmall(0, 1, 2, 3, 4);
        made(x, "inner(1, 0)", x.inner(1, 0), 1, "2 2 3 3");
        made(x, "inner(0, 0)", x.inner(0, 0), 0, "2 2 3 3");
        x.fourSmall(0, 1, 3, 3, 4);
        made(x, "inner(1, 0) of one number", x.inner(1, 0), 1, "3 3 3 3");
        CHECK.due("house(4)", x.house(4), 5);
        x.fourSmall(0, 1, 3, 2, 4);
        refused(x, "inner(1, 0) crosswise", 1, () -> x.inner(1, 0));
        refused(x, "inner(0, 0) crosswise", 0, () -> x.inner(0, 0));
        refused(x, "inner(5, 0) crosswise", 5, () -> x.inner(5, 0));
        CHECK.badState(x, "inner(0, 5) of none", () -> x.inner(0, 5));
        for (int bad : Check.noCards()) {
            CHECK.outOfBounds(x, "inner(" + bad + ", 0)", () -> x.inner(bad, 0));
            CHECK.outOfBounds(x, "inner(" + bad + ", 5)", () -> x.inner(bad, 5));
            CHECK.outOfBounds(x, "inner(0, " + bad + ")", () -> x.inner(0, bad));
        }
    }

    private static void promise20span() {
        Rangecard x = new Rangecard();
        x.fourSmall(0, 1, 2, 3, 4);
        x.fourSmall(1, 5, 6, 7, 8);
        made(x, "span(2, 0, 1)", x.span(2, 0, 1), 2, "1 2 7 8");
        made(x, "span(2, 0, 0)", x.span(2, 0, 0), 2, "1 2 3 4");
        CHECK.due("house(4)", x.house(4), 4);
        refused(x, "span(2, 1, 0)", 2, () -> x.span(2, 1, 0));
        made(x, "span(0, 0, 1) in its own place", x.span(0, 0, 1), 0, "1 2 7 8");
        made(x, "span(1, 0, 1)", x.span(1, 0, 1), 1, "1 2 7 8");
        CHECK.badState(x, "span(0, 5, 0)", () -> x.span(0, 5, 0));
        CHECK.badState(x, "span(0, 0, 5)", () -> x.span(0, 0, 5));
        CHECK.badState(x, "span(0, 5, 4)", () -> x.span(0, 5, 4));
        for (int bad : Check.noCards()) {
            CHECK.outOfBounds(x, "span(" + bad + ", 0, 1)", () -> x.span(bad, 0, 1));
            CHECK.outOfBounds(x, "span(" + bad + ", 5, 5)", () -> x.span(bad, 5, 5));
            CHECK.outOfBounds(x, "span(0, " + bad + ", 5)", () -> x.span(0, bad, 5));
            CHECK.outOfBounds(x, "span(0, 5, " + bad + ") ahead of the state", () -> x.span(0, 5, bad));
        }
    }

    private static void promise21shift() {
        Rangecard x = withNumbers();
        x.fourSmall(0, 1, 2, 3, 4);
        made(x, "shift(0, 10)", x.shift(0, 10), 0, "11 12 13 14");
        made(x, "shift(0, -20)", x.shift(0, -20), 0, "-9 -8 -7 -6");
        made(x, "shift(0, 0)", x.shift(0, 0), 0, "-9 -8 -7 -6");
        x.twoSmall(1, 0, MAX);
        made(x, "shift(1, MAX)", x.shift(1, MAX), 1, "2147483647 2147483647 4294967294 4294967294");
        CHECK.due("house(4)", x.house(4), 6);
        x.two(2, 5, 7);
        refused(x, "shift(2, 1) wraps one side", 2, () -> x.shift(2, 1));
        x.two(2, 6, 5);
        refused(x, "shift(2, -1) wraps one side", 2, () -> x.shift(2, -1));
        x.two(2, 7, 7);
        made(x, "shift(2, 1) wraps all ends", x.shift(2, 1), 2,
            "-9223372036854775808 -9223372036854775808 -9223372036854775808 -9223372036854775808");
        x.four(3, 5, 5, 5, 7);
        refused(x, "shift(3, 1) wraps GREATEST", 3, () -> x.shift(3, 1));
        CHECK.badState(x, "shift(5, 1) of none", () -> x.shift(5, 1));
        for (int bad : Check.noCards()) {
            CHECK.outOfBounds(x, "shift(" + bad + ", 1)", () -> x.shift(bad, 1));
        }
    }

    private static void promise22drop() {
        Rangecard x = new Rangecard();
        x.twoSmall(4, 1, 2);
        x.twoSmall(3, 1, 2);
        CHECK.due("drop(4)", x.drop(4), 1);
        CHECK.due("isThere(4)", x.isThere(4), false);
        CHECK.due("isThere(3)", x.isThere(3), true);
        CHECK.due("drop(4) again", x.drop(4), 0);
        CHECK.due("drop(0)", x.drop(0), 0);
        for (int bad : Check.noCards()) {
            CHECK.outOfBounds(x, "drop(" + bad + ")", () -> x.drop(bad));
        }
    }
}
