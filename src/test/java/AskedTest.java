/** Promises 23 to 38: what cards are asked for. */
public final class AskedTest {
    private static final Check CHECK = new Check("AskedTest");
    private static final int MIN = Integer.MIN_VALUE;
    private static final int MAX = Integer.MAX_VALUE;
    private static final int BELOW_SMALL = 5;
    private static final int ABOVE_SMALL = 4;

    public static void main(String[] args) {
        promise23isThere();
        promise24isFixed();
        promise25isSmall();
        promise26end();
        promise27take();
        promise28cardText();
        promise29isValid();
        promise30isValidSmall();
        promise31whichValid();
        promise32around();
        promise32aroundAtTheEnds();
        promise33count();
        promise34who();
        promise35which();
        promise36areSame();
        promise37isSameAs();
        promise38likes();
        CHECK.end();
    }

    /** NUMBERS 0 to 3 are those of setEnd(), 4 is 2^31, 5 is -2^31 - 1. */
    private static Rangecard withFarNumbers() {
        Rangecard x = new Rangecard();
        for (int what = 0; what < 4; what++) {
            x.setEnd(what, what);
        }
        x.setEnd(ABOVE_SMALL, 3);
        x.move(ABOVE_SMALL, 1);
        x.setEnd(BELOW_SMALL, 2);
        x.move(BELOW_SMALL, -1);
        return x;
    }

    private static void promise23isThere() {
        Rangecard x = new Rangecard();
        for (int card = 0; card < 6; card++) {
            CHECK.due("isThere(" + card + ") at first", x.isThere(card), false);
        }
        x.twoSmall(5, 1, 2);
        CHECK.due("isThere(5)", x.isThere(5), true);
        CHECK.due("isThere(4)", x.isThere(4), false);
        for (int bad : Check.noCards()) {
            CHECK.outOfBounds(x, "isThere(" + bad + ")", () -> x.isThere(bad));
        }
    }

    private static void promise24isFixed() {
        Rangecard x = new Rangecard();
        x.fourSmall(0, 1, 1, 4, 4);
        CHECK.due("isFixed of 1 1 4 4", x.isFixed(0), true);
        x.fourSmall(0, 1, 2, 4, 4);
        CHECK.due("isFixed of 1 2 4 4", x.isFixed(0), false);
        x.fourSmall(0, 1, 1, 3, 4);
        CHECK.due("isFixed of 1 1 3 4", x.isFixed(0), false);
        x.fourSmall(0, 1, 2, 3, 4);
        CHECK.due("isFixed of 1 2 3 4", x.isFixed(0), false);
        CHECK.badState(x, "isFixed(1) of none", () -> x.isFixed(1));
        for (int bad : Check.noCards()) {
            CHECK.outOfBounds(x, "isFixed(" + bad + ")", () -> x.isFixed(bad));
        }
    }

    private static void promise25isSmall() {
        Rangecard x = withFarNumbers();
        x.two(0, 2, 3);
        CHECK.due("isSmall of -2^31 to 2^31 - 1", x.isSmall(0), true);
        x.two(0, 2, ABOVE_SMALL);
        CHECK.due("isSmall of -2^31 to 2^31", x.isSmall(0), false);
        x.two(0, BELOW_SMALL, 3);
        CHECK.due("isSmall of -2^31 - 1 to 2^31 - 1", x.isSmall(0), false);
        x.two(0, 0, 1);
        CHECK.due("isSmall of the whole", x.isSmall(0), false);
        x.two(0, ABOVE_SMALL, ABOVE_SMALL);
        CHECK.due("isSmall of 2^31 alone", x.isSmall(0), false);
        x.two(0, BELOW_SMALL, BELOW_SMALL);
        CHECK.due("isSmall of -2^31 - 1 alone", x.isSmall(0), false);
        CHECK.badState(x, "isSmall(1) of none", () -> x.isSmall(1));
        for (int bad : Check.noCards()) {
            CHECK.outOfBounds(x, "isSmall(" + bad + ")", () -> x.isSmall(bad));
        }
    }

    private static void promise26end() {
        Rangecard x = withFarNumbers();
        x.four(3, 0, BELOW_SMALL, ABOVE_SMALL, 1);
        int[] highs = {MIN, -1, 0, MAX};
        int[] lows = {0, MAX, MIN, -1};
        for (int what = 0; what < 4; what++) {
            CHECK.due("end(3, " + what + ", true)", x.end(3, what, true), highs[what]);
            CHECK.due("end(3, " + what + ", false)", x.end(3, what, false), lows[what]);
        }
        for (int bad : new int[] {-1, 4, MIN, MAX}) {
            CHECK.badArgument(x, "end(3, " + bad + ", true)", () -> x.end(3, bad, true));
            CHECK.badArgument(x, "end(0, " + bad + ", true) ahead of the state", () -> x.end(0, bad, true));
        }
        CHECK.badState(x, "end(0, 1, false) of none", () -> x.end(0, 1, false));
        for (int bad : Check.noCards()) {
            CHECK.outOfBounds(x, "end(" + bad + ", 0, true)", () -> x.end(bad, 0, true));
            CHECK.outOfBounds(x, "end(" + bad + ", 4, true)", () -> x.end(bad, 4, true));
        }
    }

    private static void promise27take() {
        Rangecard x = withFarNumbers();
        x.four(3, 0, BELOW_SMALL, ABOVE_SMALL, 1);
        int[] lows = {0, MAX, MIN, -1};
        String[] texts = {"-9223372036854775808", "-2147483649", "2147483648", "9223372036854775807"};
        for (int what = 0; what < 4; what++) {
            CHECK.due("take(3, " + what + ", 7)", x.take(3, what, 7), lows[what]);
            CHECK.due("numberText(7)", x.numberText(7), texts[what]);
        }
        CHECK.due("numberText(6) stays", x.numberText(6), "0");
        for (int bad : new int[] {-1, 4, MIN, MAX}) {
            CHECK.badArgument(x, "take(3, " + bad + ", 7)", () -> x.take(3, bad, 7));
            CHECK.badArgument(x, "take(0, " + bad + ", 7) ahead of the state", () -> x.take(0, bad, 7));
        }
        CHECK.badState(x, "take(0, 1, 7) of none", () -> x.take(0, 1, 7));
        for (int bad : Check.noCards()) {
            CHECK.outOfBounds(x, "take(" + bad + ", 4, 0)", () -> x.take(bad, 4, 0));
        }
        for (int bad : Check.noNumbers()) {
            CHECK.outOfBounds(x, "take(3, 0, " + bad + ")", () -> x.take(3, 0, bad));
            CHECK.outOfBounds(x, "take(0, 4, " + bad + ") ahead of all else", () -> x.take(0, 4, bad));
        }
    }

    private static void promise28cardText() {
        Rangecard x = withFarNumbers();
        CHECK.due("cardText(0) of none", x.cardText(0), "-");
        x.fourSmall(0, -10, 0, -5, 100);
        CHECK.due("cardText(0)", x.cardText(0), "-10 0 -5 100");
        x.four(0, 0, BELOW_SMALL, ABOVE_SMALL, 1);
        CHECK.due("cardText(0)", x.cardText(0), "-9223372036854775808 -2147483649 2147483648 9223372036854775807");
        CHECK.due("cardText(1) of none", x.cardText(1), "-");
        for (int bad : Check.noCards()) {
            CHECK.outOfBounds(x, "cardText(" + bad + ")", () -> x.cardText(bad));
        }
    }

    private static void promise29isValid() {
        Rangecard x = withFarNumbers();
        x.fourSmall(0, -5, 0, 3, 5);
        int[] values = {-6, -5, -4, 0, 4, 5, 6};
        boolean[] wants = {false, true, true, true, true, true, false};
        for (int i = 0; i < values.length; i++) {
            x.setSmall(7, values[i]);
            CHECK.due("isValid(0, 7) of " + values[i], x.isValid(0, 7), wants[i]);
        }
        CHECK.due("isValid of -2^63", x.isValid(0, 0), false);
        CHECK.due("isValid of 2^63 - 1", x.isValid(0, 1), false);
        x.set(7, 1, 0);
        CHECK.due("isValid of 2^32", x.isValid(0, 7), false);
        x.two(1, 0, 1);
        CHECK.due("isValid of -2^63 in the whole", x.isValid(1, 0), true);
        CHECK.due("isValid of 2^63 - 1 in the whole", x.isValid(1, 1), true);
        CHECK.badState(x, "isValid(5, 0) of none", () -> x.isValid(5, 0));
        for (int bad : Check.noCards()) {
            CHECK.outOfBounds(x, "isValid(" + bad + ", 0)", () -> x.isValid(bad, 0));
        }
        for (int bad : Check.noNumbers()) {
            CHECK.outOfBounds(x, "isValid(0, " + bad + ")", () -> x.isValid(0, bad));
            CHECK.outOfBounds(x, "isValid(5, " + bad + ") ahead of the state", () -> x.isValid(5, bad));
        }
    }

    private static void promise30isValidSmall() {
        Rangecard x = withFarNumbers();
        x.two(0, 2, 3);
        CHECK.due("isValidSmall of -2^31", x.isValidSmall(0, 2), true);
        CHECK.due("isValidSmall of 2^31 - 1", x.isValidSmall(0, 3), true);
        CHECK.due("isValidSmall of 2^31", x.isValidSmall(0, ABOVE_SMALL), false);
        CHECK.due("isValidSmall of -2^31 - 1", x.isValidSmall(0, BELOW_SMALL), false);
        x.two(0, 2, ABOVE_SMALL);
        CHECK.due("isValidSmall of 0 in a range that is not small", x.isValidSmall(0, 7), false);
        x.two(0, BELOW_SMALL, 3);
        CHECK.due("isValidSmall of 0 in another", x.isValidSmall(0, 7), false);
        x.twoSmall(0, 1, 5);
        CHECK.due("isValidSmall of 0 in 1 to 5", x.isValidSmall(0, 7), false);
        CHECK.badState(x, "isValidSmall(5, 0) of none", () -> x.isValidSmall(5, 0));
        for (int bad : Check.noCards()) {
            CHECK.outOfBounds(x, "isValidSmall(" + bad + ", 0)", () -> x.isValidSmall(bad, 0));
        }
        for (int bad : Check.noNumbers()) {
            CHECK.outOfBounds(x, "isValidSmall(0, " + bad + ")", () -> x.isValidSmall(0, bad));
            CHECK.outOfBounds(x, "isValidSmall(5, " + bad + ") ahead of the state", () -> x.isValidSmall(5, bad));
        }
    }

    private static void promise31whichValid() {
        Rangecard x = withFarNumbers();
        x.fourSmall(0, -5, 0, 3, 5);
        CHECK.due("whichValid(0, -6)", x.whichValid(0, -6), 0);
        CHECK.due("whichValid(0, -5)", x.whichValid(0, -5), 2);
        CHECK.due("whichValid(0, 5)", x.whichValid(0, 5), 2);
        CHECK.due("whichValid(0, 6)", x.whichValid(0, 6), 0);
        x.two(0, 2, ABOVE_SMALL);
        CHECK.due("whichValid(0, MIN)", x.whichValid(0, MIN), 1);
        CHECK.due("whichValid(0, MAX)", x.whichValid(0, MAX), 1);
        x.two(0, 2, 3);
        CHECK.due("whichValid(0, MIN) in a small one", x.whichValid(0, MIN), 2);
        CHECK.due("whichValid(0, MAX) in a small one", x.whichValid(0, MAX), 2);
        CHECK.badState(x, "whichValid(5, 0) of none", () -> x.whichValid(5, 0));
        for (int bad : Check.noCards()) {
            CHECK.outOfBounds(x, "whichValid(" + bad + ", 0)", () -> x.whichValid(bad, 0));
        }
    }

    private static void promise32around() {
        Rangecard x = withFarNumbers();
        x.fourSmall(0, 1, 5, 3, 9);
        int[] wants = {6, 7, 7, 3};
        for (int what = 0; what < 4; what++) {
            CHECK.due("around(0, " + what + ", false)", x.around(0, what, false), wants[what]);
            CHECK.due("around(0, " + what + ", true)", x.around(0, what, true), wants[what]);
        }
        x.twoSmall(1, 4, 4);
        CHECK.due("around(1, 0, false) of one number", x.around(1, 0, false), 2);
        x.twoSmall(1, 4, 5);
        CHECK.due("around(1, 0, false) of two numbers", x.around(1, 0, false), 6);
        CHECK.due("around(1, 3, false) of two numbers", x.around(1, 3, false), 3);
        for (int bad : new int[] {-1, 4, MIN, MAX}) {
            CHECK.badArgument(x, "around(0, " + bad + ", true)", () -> x.around(0, bad, true));
            CHECK.badArgument(x, "around(5, " + bad + ", true) ahead of the state", () -> x.around(5, bad, true));
        }
        CHECK.badState(x, "around(5, 0, true) of none", () -> x.around(5, 0, true));
        for (int bad : Check.noCards()) {
            CHECK.outOfBounds(x, "around(" + bad + ", 4, true)", () -> x.around(bad, 4, true));
        }
    }

    private static void promise32aroundAtTheEnds() {
        Rangecard x = withFarNumbers();
        x.two(0, 0, 1);
        CHECK.due("around(0, 0, false) wraps around", x.around(0, 0, false), 7);
        CHECK.due("around(0, 3, false) wraps around", x.around(0, 3, false), 7);
        CHECK.due("around(0, 0, true)", x.around(0, 0, true), 0);
        x.two(0, 0, 7);
        CHECK.due("around(0, 0, false) from -2^63 to 0", x.around(0, 0, false), 6);
        x.two(0, 7, 1);
        CHECK.due("around(0, 3, false) from 0 to 2^63 - 1", x.around(0, 3, false), 3);
        x.two(0, 2, 3);
        CHECK.due("around(0, 0, true) at -2^31", x.around(0, 0, true), 6);
        CHECK.due("around(0, 3, true) at 2^31 - 1", x.around(0, 3, true), 3);
        x.two(0, BELOW_SMALL, 3);
        CHECK.due("around(0, 1, true) not small", x.around(0, 1, true), 0);
        CHECK.due("around(0, 1, false) not small", x.around(0, 1, false), 6);
    }

    private static void promise33count() {
        Rangecard x = withFarNumbers();
        x.fourSmall(0, -5, 0, 3, 5);
        CHECK.due("count(0, -10, 60)", x.count(0, -10, 60), 11);
        CHECK.due("count(0, -5, 1)", x.count(0, -5, 1), 1);
        CHECK.due("count(0, -6, 1)", x.count(0, -6, 1), 0);
        CHECK.due("count(0, 5, 2)", x.count(0, 5, 2), 1);
        CHECK.due("count(0, 6, 60)", x.count(0, 6, 60), 0);
        x.two(0, 0, 1);
        CHECK.due("count(0, MAX, 60) goes on above 2^31 - 1", x.count(0, MAX, 60), 60);
        x.two(0, ABOVE_SMALL, 1);
        CHECK.due("count(0, MAX, 3) from 2^31 on", x.count(0, MAX, 3), 2);
        x.two(0, 0, 2);
        CHECK.due("count(0, MIN, 5) up to -2^31", x.count(0, MIN, 5), 1);
        CHECK.due("count(0, MAX, 5) does not wrap", x.count(0, MAX, 5), 0);
        for (int bad : new int[] {0, 61, -1, MIN, MAX}) {
            CHECK.badArgument(x, "count(0, 0, " + bad + ")", () -> x.count(0, 0, bad));
            CHECK.badArgument(x, "count(5, 0, " + bad + ") ahead of the state", () -> x.count(5, 0, bad));
        }
        CHECK.badState(x, "count(5, 0, 1) of none", () -> x.count(5, 0, 1));
        for (int bad : Check.noCards()) {
            CHECK.outOfBounds(x, "count(" + bad + ", 0, 0)", () -> x.count(bad, 0, 0));
        }
    }

    private static void promise34who() {
        Rangecard x = withFarNumbers();
        CHECK.due("who(7, 0) of none", x.who(7, 0), 0);
        x.twoSmall(0, -1, 1);
        x.two(2, 0, 1);
        x.twoSmall(3, 1, 2);
        x.twoSmall(5, 0, 0);
        CHECK.due("who(7, 0)", x.who(7, 0), 37);
        CHECK.due("who(7, 1)", x.who(7, 1), 33);
        CHECK.due("who(1, 0)", x.who(1, 0), 4);
        CHECK.due("who(1, 1)", x.who(1, 1), 0);
        for (int card = 0; card < 6; card++) {
            x.twoSmall(card, 0, 3);
        }
        CHECK.due("who(7, 1) of all", x.who(7, 1), 63);
        for (int bad : new int[] {-1, 2, MIN, MAX}) {
            CHECK.badArgument(x, "who(0, " + bad + ")", () -> x.who(0, bad));
        }
        for (int bad : Check.noNumbers()) {
            CHECK.outOfBounds(x, "who(" + bad + ", 0)", () -> x.who(bad, 0));
            CHECK.outOfBounds(x, "who(" + bad + ", 2)", () -> x.who(bad, 2));
        }
    }

    private static void promise35which() {
        Rangecard x = withFarNumbers();
        CHECK.due("which(0) of none", x.which(0), 0);
        x.twoSmall(0, -1, 1);
        x.two(2, 0, 1);
        x.threeSmall(5, 1, 2, 3);
        CHECK.due("which(0)", x.which(0), 37);
        CHECK.due("which(1)", x.which(1), 5);
        CHECK.due("which(2)", x.which(2), 33);
        x.drop(0);
        CHECK.due("which(0) without 0", x.which(0), 36);
        for (int bad : new int[] {-1, 3, MIN, MAX}) {
            CHECK.badArgument(x, "which(" + bad + ")", () -> x.which(bad));
        }
    }

    private static void promise36areSame() {
        Rangecard x = new Rangecard();
        x.fourSmall(0, 1, 2, 3, 4);
        x.fourSmall(1, 1, 2, 3, 4);
        CHECK.due("areSame(0, 1)", x.areSame(0, 1), true);
        CHECK.due("areSame(0, 0)", x.areSame(0, 0), true);
        int[][] ends = {{0, 2, 3, 4}, {1, 1, 3, 4}, {1, 2, 2, 4}, {1, 2, 3, 5}, {1, 3, 2, 4}};
        for (int[] e : ends) {
            x.fourSmall(1, e[0], e[1], e[2], e[3]);
            CHECK.due("areSame(0, 1) with " + x.cardText(1), x.areSame(0, 1), false);
            CHECK.due("areSame(1, 0) with " + x.cardText(1), x.areSame(1, 0), false);
        }
        CHECK.badState(x, "areSame(0, 5)", () -> x.areSame(0, 5));
        CHECK.badState(x, "areSame(5, 0)", () -> x.areSame(5, 0));
        CHECK.badState(x, "areSame(5, 4)", () -> x.areSame(5, 4));
        CHECK.badState(x, "areSame(5, 5)", () -> x.areSame(5, 5));
        for (int bad : Check.noCards()) {
            CHECK.outOfBounds(x, "areSame(" + bad + ", 5)", () -> x.areSame(bad, 5));
            CHECK.outOfBounds(x, "areSame(5, " + bad + ") ahead of the state", () -> x.areSame(5, bad));
        }
    }

    private static void promise37isSameAs() {
        Rangecard x = new Rangecard();
        x.twoSmall(0, 1, 4);
        boolean[] fixed = {false, false, true, true, true};
        for (int what = 0; what < 5; what++) {
            CHECK.due("isSameAs(0, " + what + ") of 1 1 4 4", x.isSameAs(0, what), fixed[what]);
        }
        x.fourSmall(0, 1, 3, 2, 4);
        boolean[] open = {false, false, true, true, false};
        for (int what = 0; what < 5; what++) {
            CHECK.due("isSameAs(0, " + what + ") of 1 3 2 4", x.isSameAs(0, what), open[what]);
        }
        CHECK.due("house(4) counts none that is made for it", x.house(4), 2);
        for (int bad : new int[] {-1, 5, MIN, MAX}) {
            CHECK.badArgument(x, "isSameAs(0, " + bad + ")", () -> x.isSameAs(0, bad));
            CHECK.badArgument(x, "isSameAs(5, " + bad + ") ahead of the state", () -> x.isSameAs(5, bad));
        }
        for (int what = 0; what < 5; what++) {
            int asked = what;
            CHECK.badState(x, "isSameAs(5, " + what + ") of none", () -> x.isSameAs(5, asked));
        }
        for (int bad : Check.noCards()) {
            CHECK.outOfBounds(x, "isSameAs(" + bad + ", 5)", () -> x.isSameAs(bad, 5));
        }
    }

    private static void promise38likes() {
        Rangecard x = new Rangecard();
        x.fourSmall(0, 1, 1, 4, 4);
        CHECK.due("likes(0) alone", x.likes(0), 1);
        x.twoSmall(2, 1, 4);
        x.threeSmall(3, 1, 4, 4);
        x.fourSmall(4, 1, 1, 3, 4);
        x.same(5, 0);
        CHECK.due("likes(0)", x.likes(0), 45);
        CHECK.due("likes(5)", x.likes(5), 45);
        CHECK.due("likes(4)", x.likes(4), 16);
        CHECK.badState(x, "likes(1) of none", () -> x.likes(1));
        for (int bad : Check.noCards()) {
            CHECK.outOfBounds(x, "likes(" + bad + ")", () -> x.likes(bad));
        }
    }
}
