/**
 * "-9: it is let, but refused; nothing is changed then, but what is counted", "exceptions go ahead of -9", and when
 * ENDS are IN ORDER: each of its four conditions just so and just not, all others being so.
 */
public final class RefusedTest {
    private static final Check CHECK = new Check("RefusedTest");
    private static final int MIN = Integer.MIN_VALUE;
    private static final int MAX = Integer.MAX_VALUE;

    public static void main(String[] args) {
        leastNotAboveLeastAtMost();
        greatestAtLeastNotAboveGreatest();
        leastNotAboveGreatestAtLeast();
        leastAtMostNotAboveGreatest();
        leastAtMostMayBeAboveGreatestAtLeast();
        farApartInOrder();
        ofThreeInOrder();
        ofTwoInOrder();
        ofFourSmallInOrder();
        ofThreeSmallInOrder();
        ofTwoSmallInOrder();
        innerInOrder();
        spanInOrder();
        shiftUpWrapsAround();
        shiftDownWrapsAround();
        shiftOfCrosswiseWrapsAround();
        shiftByLeastAndGreatest();
        layOnFullPile();
        refusedCardStaysAsItIs();
        refusedCardStaysWithoutRange();
        exceptionsGoAheadOfRefusal();
        eachRefusalIsCountedOnce();
        CHECK.end();
    }

    private static Rangecard withNumbers(long a, long b, long c, long d) {
        Rangecard x = Scene.FULL.make();
        Wide.put(x, 0, a);
        Wide.put(x, 1, b);
        Wide.put(x, 2, c);
        Wide.put(x, 3, d);
        return x;
    }

    private static void isInOrder(long a, long b, long c, long d) {
        String call = "four() of " + Wide.text(a, b, c, d);
        Rangecard x = withNumbers(a, b, c, d);
        int made = x.house(4);
        int refused = x.house(2);
        CHECK.due(call, x.four(1, 0, 1, 2, 3), 1);
        CHECK.due(call + ", the RANGE", x.cardText(1), Wide.text(a, b, c, d));
        CHECK.due(call + ", house(4)", x.house(4), made + 1);
        CHECK.due(call + ", house(2)", x.house(2), refused);
    }

    private static void isNotInOrder(long a, long b, long c, long d) {
        CHECK.refused("four() of " + Wide.text(a, b, c, d), () -> withNumbers(a, b, c, d), x -> x.four(1, 0, 1, 2, 3));
    }

    private static void leastNotAboveLeastAtMost() {
        for (long t : Wide.turns()) {
            isInOrder(t, t, t + 1, t + 1);
            isInOrder(t + 1, t + 1, t + 1, t + 1);
            isNotInOrder(t + 1, t, t + 1, t + 1);
        }
    }

    private static void greatestAtLeastNotAboveGreatest() {
        for (long t : Wide.turns()) {
            isInOrder(t, t, t, t);
            isInOrder(t, t, t, t + 1);
            isNotInOrder(t, t, t + 1, t);
        }
    }

    private static void leastNotAboveGreatestAtLeast() {
        for (long t : Wide.turns()) {
            isInOrder(t, t + 1, t, t + 1);
            isInOrder(t, t + 1, t + 1, t + 1);
            isNotInOrder(t + 1, t + 1, t, t + 1);
        }
    }

    private static void leastAtMostNotAboveGreatest() {
        for (long t : Wide.turns()) {
            isInOrder(t, t + 1, t, t + 1);
            isNotInOrder(t, t + 1, t, t);
        }
    }

    private static void leastAtMostMayBeAboveGreatestAtLeast() {
        isInOrder(1, 3, 2, 4);
        isInOrder(1, 4, 1, 4);
        isInOrder(Wide.LEAST, Wide.GREATEST, Wide.LEAST, Wide.GREATEST);
        isInOrder(Wide.LEAST, Wide.LEAST + 1, Wide.LEAST, Wide.GREATEST);
    }

    /** As far apart as these their difference wraps around, or their LOW stand the other way. */
    private static void farApartInOrder() {
        isInOrder(Wide.LEAST, Wide.LEAST, Wide.GREATEST, Wide.GREATEST);
        isInOrder(Wide.LEAST, Wide.GREATEST, Wide.GREATEST, Wide.GREATEST);
        isInOrder(Wide.LEAST, Wide.LEAST, Wide.LEAST, Wide.GREATEST);
        isNotInOrder(Wide.GREATEST, Wide.LEAST, Wide.GREATEST, Wide.GREATEST);
        isNotInOrder(Wide.LEAST, Wide.LEAST, Wide.GREATEST, Wide.LEAST);
        isNotInOrder(Wide.GREATEST, Wide.GREATEST, Wide.LEAST, Wide.GREATEST);
        isNotInOrder(Wide.LEAST, Wide.GREATEST, Wide.LEAST, Wide.LEAST);
        isInOrder(5, 4294967296L, 8589934593L, 12884901888L);
        isNotInOrder(4294967296L, 5, 4294967296L, 4294967296L);
    }

    private static void ofThreeInOrder() {
        for (long t : Wide.turns()) {
            Rangecard x = new Rangecard();
            CHECK.due("three() of thrice " + t, Wide.three(x, 0, t, t, t), 1);
            CHECK.due("its RANGE", x.cardText(0), Wide.text(t, t, t, t));
            CHECK.due("three() open above " + t, Wide.three(x, 0, t, t, t + 1), 1);
            CHECK.due("its RANGE", x.cardText(0), Wide.text(t, t, t, t + 1));
            CHECK.due("three() up from " + t, Wide.three(x, 0, t, t + 1, t + 1), 1);
            CHECK.due("its RANGE", x.cardText(0), Wide.text(t, t, t + 1, t + 1));
            String above = "three() with LEAST above GREATEST AT LEAST at " + t;
            CHECK.refused(above, () -> withNumbers(t + 1, t, t + 1, 0), y -> y.three(1, 0, 1, 2));
            String crossed = "three() with GREATEST AT LEAST above GREATEST at " + t;
            CHECK.refused(crossed, () -> withNumbers(t, t + 1, t, 0), y -> y.three(1, 0, 1, 2));
        }
    }

    private static void ofTwoInOrder() {
        for (long t : Wide.turns()) {
            Rangecard x = new Rangecard();
            CHECK.due("two() of twice " + t, Wide.two(x, 0, t, t), 1);
            CHECK.due("its RANGE", x.cardText(0), Wide.text(t, t, t, t));
            CHECK.due("two() from " + t, Wide.two(x, 0, t, t + 1), 1);
            CHECK.due("its RANGE", x.cardText(0), Wide.text(t, t, t + 1, t + 1));
            CHECK.refused("two() down to " + t, () -> withNumbers(t + 1, t, 0, 0), y -> y.two(1, 0, 1));
        }
        CHECK.refused("two() from 2^63 - 1 to -2^63", () -> withNumbers(Wide.GREATEST, Wide.LEAST, 0, 0),
            y -> y.two(1, 0, 1));
    }

    private static void ofFourSmallInOrder() {
        for (int t : new int[] {MIN, -1, 0, MAX - 1}) {
            int u = t + 1;
            int[][] goods = {{t, t, t, t}, {t, t, u, u}, {t, u, t, u}, {t, t, t, u}, {t, u, u, u}, {u, u, u, u}};
            for (int[] e : goods) {
                Rangecard x = new Rangecard();
                CHECK.due("fourSmall()", x.fourSmall(5, e[0], e[1], e[2], e[3]), 1);
                CHECK.due("its RANGE", x.cardText(5), Wide.text(e[0], e[1], e[2], e[3]));
            }
            int[][] bads = {{u, t, u, u}, {t, t, u, t}, {u, u, t, u}, {t, u, t, t}};
            for (int[] e : bads) {
                CHECK.refused("fourSmall() of " + Wide.text(e[0], e[1], e[2], e[3]), Scene.FULL::make,
                    y -> y.fourSmall(1, e[0], e[1], e[2], e[3]));
            }
        }
        Rangecard x = new Rangecard();
        CHECK.due("fourSmall() of the whole", x.fourSmall(0, MIN, MAX, MIN, MAX), 1);
        CHECK.due("its RANGE", x.cardText(0), "-2147483648 2147483647 -2147483648 2147483647");
        CHECK.refused("fourSmall(1, MAX, MIN, MAX, MAX)", Scene.FULL::make, y -> y.fourSmall(1, MAX, MIN, MAX, MAX));
        CHECK.refused("fourSmall(1, MIN, MAX, MIN, MIN)", Scene.FULL::make, y -> y.fourSmall(1, MIN, MAX, MIN, MIN));
    }

    private static void ofThreeSmallInOrder() {
        for (int t : new int[] {MIN, -1, 0, MAX - 1}) {
            Rangecard x = new Rangecard();
            CHECK.due("threeSmall() of thrice " + t, x.threeSmall(0, t, t, t), 1);
            CHECK.due("its RANGE", x.cardText(0), Wide.text(t, t, t, t));
            CHECK.due("threeSmall() open above " + t, x.threeSmall(0, t, t, t + 1), 1);
            CHECK.due("its RANGE", x.cardText(0), Wide.text(t, t, t, t + 1));
            CHECK.refused("threeSmall() with a above b at " + t, Scene.FULL::make,
                y -> y.threeSmall(1, t + 1, t, t + 1));
            CHECK.refused("threeSmall() with b above c at " + t, Scene.FULL::make,
                y -> y.threeSmall(1, t, t + 1, t));
        }
        CHECK.refused("threeSmall(1, MAX, MIN, MAX)", Scene.FULL::make, y -> y.threeSmall(1, MAX, MIN, MAX));
        CHECK.refused("threeSmall(1, MIN, MAX, MIN)", Scene.FULL::make, y -> y.threeSmall(1, MIN, MAX, MIN));
    }

    private static void ofTwoSmallInOrder() {
        for (int t : new int[] {MIN, -1, 0, MAX - 1}) {
            Rangecard x = new Rangecard();
            CHECK.due("twoSmall() of twice " + t, x.twoSmall(0, t, t), 1);
            CHECK.due("its RANGE", x.cardText(0), Wide.text(t, t, t, t));
            CHECK.due("twoSmall() from " + t, x.twoSmall(0, t, t + 1), 1);
            CHECK.due("its RANGE", x.cardText(0), Wide.text(t, t, t + 1, t + 1));
            CHECK.refused("twoSmall() down to " + t, Scene.FULL::make, y -> y.twoSmall(1, t + 1, t));
        }
        CHECK.refused("twoSmall(1, MAX, MIN)", Scene.FULL::make, y -> y.twoSmall(1, MAX, MIN));
    }

    private static Rangecard withRange(long a, long b, long c, long d) {
        Rangecard x = Scene.FULL.make();
        Wide.four(x, 0, a, b, c, d);
        return x;
    }

    private static void innerInOrder() {
        for (long t : Wide.turns()) {
            Rangecard x = withRange(t, t + 1, t + 1, t + 1);
            CHECK.due("inner() of one number above " + t, x.inner(1, 0), 1);
            CHECK.due("its RANGE", x.cardText(1), Wide.text(t + 1, t + 1, t + 1, t + 1));
            x = withRange(t, t, t + 1, t + 1);
            CHECK.due("inner() of two numbers at " + t, x.inner(1, 0), 1);
            CHECK.due("its RANGE", x.cardText(1), Wide.text(t, t, t + 1, t + 1));
            String call = "inner() of one crosswise at " + t;
            CHECK.refused(call, () -> withRange(t, t + 1, t, t + 1), y -> y.inner(1, 0));
            CHECK.refused(call + ", its own", () -> withRange(t, t + 1, t, t + 1), y -> y.inner(0, 0));
        }
        CHECK.refused("inner() of one crosswise, the whole",
            () -> withRange(Wide.LEAST, Wide.GREATEST, Wide.LEAST, Wide.GREATEST), y -> y.inner(1, 0));
    }

    /** CARD 0 has the one, CARD 2 the other. */
    private static Rangecard withRanges(long a, long b, long c, long d) {
        Rangecard x = withRange(a, b, Wide.GREATEST, Wide.GREATEST);
        Wide.four(x, 2, Wide.LEAST, Wide.LEAST, c, d);
        return x;
    }

    private static void spanInOrder() {
        for (long t : Wide.turns()) {
            Rangecard x = withRanges(t, t, t, t);
            CHECK.due("span() of one number at " + t, x.span(1, 0, 2), 1);
            CHECK.due("its RANGE", x.cardText(1), Wide.text(t, t, t, t));
            x = withRanges(t, t + 1, t, t + 1);
            CHECK.due("span() crosswise at " + t, x.span(1, 0, 2), 1);
            CHECK.due("its RANGE", x.cardText(1), Wide.text(t, t + 1, t, t + 1));
            CHECK.refused("span() with LEAST above GREATEST AT LEAST at " + t,
                () -> withRanges(t + 1, t + 1, t, t + 1), y -> y.span(1, 0, 2));
            CHECK.refused("span() with LEAST AT MOST above GREATEST at " + t,
                () -> withRanges(t, t + 1, t, t), y -> y.span(1, 0, 2));
        }
        CHECK.refused("span() from 2^63 - 1 to -2^63",
            () -> withRanges(Wide.GREATEST, Wide.GREATEST, Wide.LEAST, Wide.LEAST), y -> y.span(0, 0, 2));
    }

    private static void shifts(long a, long b, long c, long d, int by, String want) {
        Rangecard x = withRange(a, b, c, d);
        int made = x.house(4);
        CHECK.due("shift() of " + Wide.text(a, b, c, d) + " by " + by, x.shift(0, by), 1);
        CHECK.due("its RANGE", x.cardText(0), want);
        CHECK.due("house(4)", x.house(4), made + 1);
    }

    private static void shiftIsRefused(long a, long b, long c, long d, int by) {
        CHECK.refused("shift() of " + Wide.text(a, b, c, d) + " by " + by, () -> withRange(a, b, c, d),
            y -> y.shift(0, by));
    }

    private static void shiftUpWrapsAround() {
        long top = Wide.GREATEST;
        shifts(1, 2, top - 2, top - 1, 1, Wide.text(2, 3, top - 1, top));
        shiftIsRefused(1, 2, top - 2, top - 1, 2);
        shiftIsRefused(1, 2, top - 2, top - 1, 3);
        shiftIsRefused(1, top, top, top, 1);
        shiftIsRefused(1, 1, top, top, 1);
        shiftIsRefused(1, 1, 1, top, 1);
        shiftIsRefused(top - 1, top - 1, top, top, 1);
        shifts(top - 1, top - 1, top, top, 2, Wide.text(Wide.LEAST, Wide.LEAST, Wide.LEAST + 1, Wide.LEAST + 1));
        shifts(top, top, top, top, 1, Wide.text(Wide.LEAST, Wide.LEAST, Wide.LEAST, Wide.LEAST));
        shiftIsRefused(Wide.LEAST, Wide.LEAST, top, top, 1);
        shifts(Wide.LEAST, Wide.LEAST, top, top, 0, Wide.text(Wide.LEAST, Wide.LEAST, top, top));
    }

    private static void shiftDownWrapsAround() {
        long low = Wide.LEAST;
        shifts(low + 1, low + 2, 8, 9, -1, Wide.text(low, low + 1, 7, 8));
        shiftIsRefused(low + 1, low + 2, 8, 9, -2);
        shiftIsRefused(low + 1, low + 2, 8, 9, -3);
        shiftIsRefused(low, low, low, 9, -1);
        shiftIsRefused(low, low + 1, low + 1, low + 1, -1);
        shifts(low, low, low + 1, low + 1, -2, Wide.text(Wide.GREATEST - 1, Wide.GREATEST - 1, Wide.GREATEST,
            Wide.GREATEST));
        shifts(low, low, low, low, -1, Wide.text(Wide.GREATEST, Wide.GREATEST, Wide.GREATEST, Wide.GREATEST));
        shiftIsRefused(low, low, Wide.GREATEST, Wide.GREATEST, -1);
    }

    private static void shiftOfCrosswiseWrapsAround() {
        long low = Wide.LEAST;
        long top = Wide.GREATEST;
        shiftIsRefused(low, top, low, top, 1);
        shiftIsRefused(low, top, low, top, -1);
        shiftIsRefused(top - 1, top, top - 1, top, 1);
        shifts(top - 1, top, top - 1, top, 2, Wide.text(low, low + 1, low, low + 1));
        shifts(low, low + 1, low, low + 1, -2, Wide.text(top - 1, top, top - 1, top));
    }

    private static void shiftByLeastAndGreatest() {
        shifts(0, 1, 2, 3, MIN, "-2147483648 -2147483647 -2147483646 -2147483645");
        shifts(0, 1, 2, 3, MAX, "2147483647 2147483648 2147483649 2147483650");
        shifts(MIN, MIN, MAX, MAX, MIN, "-4294967296 -4294967296 -1 -1");
        shifts(MIN, MIN, MAX, MAX, MAX, "-1 -1 4294967294 4294967294");
        shifts(Wide.LEAST - MIN, 0, 0, 0, MIN, "-9223372036854775808 -2147483648 -2147483648 -2147483648");
        shiftIsRefused(Wide.LEAST - MIN - 1, 0, 0, 0, MIN);
        shifts(0, 0, 0, Wide.GREATEST - MAX, MAX, "2147483647 2147483647 2147483647 9223372036854775807");
        shiftIsRefused(0, 0, 0, Wide.GREATEST - MAX + 1, MAX);
    }

    private static void layOnFullPile() {
        for (int card = 0; card < 6; card++) {
            int asked = card;
            CHECK.refused("lay(" + card + ") on twelve", Scene.FULL::make, x -> x.lay(asked));
        }
        Rangecard x = Scene.LAST_CARD.make();
        int refusals = x.house(2);
        CHECK.due("lay(5) on eleven", x.lay(5), 12);
        CHECK.due("house(2)", x.house(2), refusals);
    }

    private static void refusedCardStaysAsItIs() {
        for (int card = 0; card < 6; card++) {
            int c = card;
            CHECK.refused("two(" + c + ", ..)", Scene.FULL::make, x -> x.two(c, 0, 1));
            CHECK.refused("three(" + c + ", ..)", Scene.FULL::make, x -> x.three(c, 0, 1, 1));
            CHECK.refused("four(" + c + ", ..)", Scene.FULL::make, x -> x.four(c, 0, 1, 2, 2));
            CHECK.refused("twoSmall(" + c + ", ..)", Scene.FULL::make, x -> x.twoSmall(c, 0, -1));
            CHECK.refused("threeSmall(" + c + ", ..)", Scene.FULL::make, x -> x.threeSmall(c, 0, 2, 1));
            CHECK.refused("fourSmall(" + c + ", ..)", Scene.FULL::make, x -> x.fourSmall(c, 0, 3, 1, 2));
            CHECK.refused("inner(" + c + ", 2)", Scene.FULL::make, x -> x.inner(c, 2));
            CHECK.refused("span(" + c + ", 0, 5)", Scene.FULL::make, x -> x.span(c, 0, 5));
        }
        CHECK.refused("shift(2, 1)", Scene.FULL::make, x -> x.shift(2, 1));
    }

    private static void refusedCardStaysWithoutRange() {
        Check.Given given = () -> {
            Rangecard x = Scene.LAST_CARD.make();
            x.twoSmall(4, 20, 30);
            x.twoSmall(3, -20, -10);
            x.fourSmall(2, 1, 3, 2, 4);
            return x;
        };
        CHECK.refused("two() without", given, x -> x.two(0, 0, 1));
        CHECK.refused("three() without", given, x -> x.three(0, 0, 1, 1));
        CHECK.refused("four() without", given, x -> x.four(0, 0, 1, 2, 2));
        CHECK.refused("twoSmall() without", given, x -> x.twoSmall(0, 0, -1));
        CHECK.refused("threeSmall() without", given, x -> x.threeSmall(0, 0, 2, 1));
        CHECK.refused("fourSmall() without", given, x -> x.fourSmall(0, 0, 3, 1, 2));
        CHECK.refused("inner() without", given, x -> x.inner(0, 2));
        CHECK.refused("span() without", given, x -> x.span(0, 4, 3));
    }

    private static void throwsAhead(String call, Check.Given given, Check.On it, Class<?> want) {
        CHECK.stays(call + " would be refused, too", given, it, want);
    }

    /** Each of these would be -9, but for what it throws. */
    private static void exceptionsGoAheadOfRefusal() {
        Class<?> index = IndexOutOfBoundsException.class;
        Class<?> state = IllegalStateException.class;
        for (int bad : Check.noCards()) {
            String first = "(" + bad + ", ..)";
            throwsAhead("two" + first, Scene.FULL::make, x -> x.two(bad, 0, 1), index);
            throwsAhead("three" + first, Scene.FULL::make, x -> x.three(bad, 0, 1, 1), index);
            throwsAhead("four" + first, Scene.FULL::make, x -> x.four(bad, 0, 1, 2, 2), index);
            throwsAhead("twoSmall" + first, Scene.FULL::make, x -> x.twoSmall(bad, 0, -1), index);
            throwsAhead("threeSmall" + first, Scene.FULL::make, x -> x.threeSmall(bad, 0, 2, 1), index);
            throwsAhead("fourSmall" + first, Scene.FULL::make, x -> x.fourSmall(bad, 0, 3, 1, 2), index);
            throwsAhead("inner" + first, Scene.FULL::make, x -> x.inner(bad, 2), index);
            throwsAhead("span" + first, Scene.FULL::make, x -> x.span(bad, 0, 5), index);
            throwsAhead("shift" + first, Scene.FULL::make, x -> x.shift(bad, 1), index);
            throwsAhead("lay" + first, Scene.FULL::make, x -> x.lay(bad), index);
        }
        for (int bad : Check.noNumbers()) {
            throwsAhead("three(0, 0, 1, " + bad + ")", Scene.FULL::make, x -> x.three(0, 0, 1, bad), index);
            throwsAhead("four(0, 0, 1, 2, " + bad + ")", Scene.FULL::make, x -> x.four(0, 0, 1, 2, bad), index);
        }
        Check.Given fullWithoutOne = () -> {
            Rangecard x = Scene.FULL.make();
            x.drop(0);
            return x;
        };
        throwsAhead("lay(0) of none on twelve", fullWithoutOne, x -> x.lay(0), state);
        throwsAhead("span(1, 0, 5)", fullWithoutOne, x -> x.span(1, 0, 5), state);
        throwsAhead("span(1, 5, 0)", fullWithoutOne, x -> x.span(1, 5, 0), state);
    }

    private static void eachRefusalIsCountedOnce() {
        Rangecard x = new Rangecard();
        for (int times = 1; times <= 200; times++) {
            CHECK.due("twoSmall(0, 1, 0), the " + times + ". time", x.twoSmall(0, 1, 0), -9);
            CHECK.due("house(2)", x.house(2), times);
        }
        CHECK.due("house(4)", x.house(4), 0);
    }
}
