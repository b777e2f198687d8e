/** Promises 23 to 38 where an answer turns: no CARD with a RANGE and all six, ENDS at the ends of 32 and of 64 bits. */
public final class AskedEdgesTest {
    private static final Check CHECK = new Check("AskedEdgesTest");
    private static final int MIN = Integer.MIN_VALUE;
    private static final int MAX = Integer.MAX_VALUE;

    public static void main(String[] args) {
        noCardIsThere();
        allCardsAreThere();
        fixedTurnsAtEachInnerEnd();
        smallTurnsAtLeast();
        smallTurnsAtGreatest();
        smallAsksOnlyTheOuterEnds();
        endHasHighAndLow();
        takeTellsLowThen();
        takeIntoFirstAndLastNumber();
        cardTextAtTheEnds();
        validTurnsAtLeast();
        validTurnsAtGreatest();
        validWithinWhatIsOpen();
        validAtTheEndsOfSixtyFourBits();
        validAsSmallOnlyInSmall();
        whichValidTurns();
        whichValidAtTheEndsOfThirtyTwoBits();
        aroundEachEnd();
        aroundAsSmall();
        aroundWrapsBelowLeast();
        aroundWrapsAboveGreatest();
        countOfOneAndOfSixty();
        countTurnsAtBothEnds();
        countGoesOnAboveThirtyTwoBits();
        whoOfNoneOneAndAll();
        whoAsSmall();
        whichOfNoneOneAndAll();
        sameAsNothingAndText();
        sameAsItsOwnEnds();
        sameAsItsOuterEnds();
        likesItselfAlone();
        likesAllSix();
        askingChangesNothing();
        CHECK.end();
    }

    private static Rangecard withRange(long a, long b, long c, long d) {
        Rangecard x = new Rangecard();
        Wide.four(x, 0, a, b, c, d);
        return x;
    }

    private static void noCardIsThere() {
        for (int card = 0; card < 6; card++) {
            int asked = card;
            CHECK.stays("isThere(" + card + ") at first", Scene.NEW::make, x -> x.isThere(asked), false);
            CHECK.stays("cardText(" + card + ") at first", Scene.NEW::make, x -> x.cardText(asked), "-");
            CHECK.stays("isFixed(" + card + ") at first", Scene.NEW::make, x -> x.isFixed(asked),
                IllegalStateException.class);
        }
    }

    private static void allCardsAreThere() {
        for (int card = 0; card < 6; card++) {
            int asked = card;
            CHECK.stays("isThere(" + card + ") of six", Scene.FULL::make, x -> x.isThere(asked), true);
        }
    }

    private static void fixedTurnsAtEachInnerEnd() {
        for (long t : Wide.turns()) {
            long u = t + 1;
            CHECK.due("isFixed() of one number " + t, withRange(t, t, t, t).isFixed(0), true);
            CHECK.due("isFixed() of two numbers at " + t, withRange(t, t, u, u).isFixed(0), true);
            CHECK.due("isFixed() with an open LEAST at " + t, withRange(t, u, u, u).isFixed(0), false);
            CHECK.due("isFixed() with an open GREATEST at " + t, withRange(t, t, t, u).isFixed(0), false);
            CHECK.due("isFixed() with both open at " + t, withRange(t, u, t, u).isFixed(0), false);
        }
        Rangecard x = withRange(0, 4294967296L, 4294967296L, 4294967296L);
        CHECK.due("isFixed() where LOW of LEAST and LEAST AT MOST are alike", x.isFixed(0), false);
        x = withRange(0, 0, 0, 4294967296L);
        CHECK.due("isFixed() where LOW of GREATEST AT LEAST and GREATEST are alike", x.isFixed(0), false);
    }

    private static void smallTurnsAtLeast() {
        CHECK.due("isSmall() from -2^31", withRange(Wide.SMALL_LEAST, 0, 0, 0).isSmall(0), true);
        CHECK.due("isSmall() from 1 below", withRange(Wide.SMALL_LEAST - 1, 0, 0, 0).isSmall(0), false);
        CHECK.due("isSmall() from 1 above", withRange(Wide.SMALL_LEAST + 1, 0, 0, 0).isSmall(0), true);
        CHECK.due("isSmall() from -2^32", withRange(-4294967296L, 0, 0, 0).isSmall(0), false);
        CHECK.due("isSmall() from -2^63", withRange(Wide.LEAST, 0, 0, 0).isSmall(0), false);
    }

    private static void smallTurnsAtGreatest() {
        CHECK.due("isSmall() to 2^31 - 1", withRange(0, 0, 0, Wide.SMALL_GREATEST).isSmall(0), true);
        CHECK.due("isSmall() to 1 above", withRange(0, 0, 0, Wide.SMALL_GREATEST + 1).isSmall(0), false);
        CHECK.due("isSmall() to 1 below", withRange(0, 0, 0, Wide.SMALL_GREATEST - 1).isSmall(0), true);
        CHECK.due("isSmall() to 2^32", withRange(0, 0, 0, 4294967296L).isSmall(0), false);
        CHECK.due("isSmall() to 2^63 - 1", withRange(0, 0, 0, Wide.GREATEST).isSmall(0), false);
    }

    private static void smallAsksOnlyTheOuterEnds() {
        long low = Wide.SMALL_LEAST;
        long top = Wide.SMALL_GREATEST;
        CHECK.due("isSmall() of all that is", withRange(low, low, top, top).isSmall(0), true);
        CHECK.due("isSmall() of that crosswise", withRange(low, top, low, top).isSmall(0), true);
        CHECK.due("isSmall() with SMALL ENDS within", withRange(low - 1, low, top, top + 1).isSmall(0), false);
        CHECK.due("isSmall() beyond above", withRange(top + 1, top + 1, top + 1, top + 1).isSmall(0), false);
        CHECK.due("isSmall() beyond below", withRange(low - 1, low - 1, low - 1, low - 1).isSmall(0), false);
        CHECK.due("isSmall() of 2^31 - 1 alone", withRange(top, top, top, top).isSmall(0), true);
        CHECK.due("isSmall() of -2^31 alone", withRange(low, low, low, low).isSmall(0), true);
    }

    private static void endHasHighAndLow() {
        for (long t : Wide.turns()) {
            long[][] rows = {{t, t, t, t}, {t + 1, t + 1, t + 1, t + 1}};
            for (long[] e : rows) {
                Rangecard x = withRange(e[0], e[1], e[2], e[3]);
                for (int what = 0; what < 4; what++) {
                    Rangecard y = new Rangecard();
                    Wide.put(y, 0, e[what]);
                    CHECK.due("HIGH of the END " + e[what], x.end(0, what, true), y.ofNumber(0, true));
                    CHECK.due("LOW of the END " + e[what], x.end(0, what, false), y.ofNumber(0, false));
                }
            }
        }
        Rangecard x = withRange(Wide.LEAST, -2147483649L, 2147483648L, Wide.GREATEST);
        int[] highs = {MIN, -1, 0, MAX};
        int[] lows = {0, MAX, MIN, -1};
        for (int what = 0; what < 4; what++) {
            CHECK.due("end(0, " + what + ", true)", x.end(0, what, true), highs[what]);
            CHECK.due("end(0, " + what + ", false)", x.end(0, what, false), lows[what]);
        }
    }

    private static void takeTellsLowThen() {
        for (long t : Wide.turns()) {
            for (int what = 0; what < 4; what++) {
                long[] e = {t, t, t, t + 1};
                Rangecard x = withRange(e[0], e[1], e[2], e[3]);
                CHECK.due("take(0, " + what + ", 7) of " + e[what], x.take(0, what, 7), (int) e[what]);
                CHECK.due("the NUMBER", x.numberText(7), Long.toString(e[what]));
                CHECK.due("the RANGE", x.cardText(0), Wide.text(t, t, t, t + 1));
            }
        }
    }

    private static void takeIntoFirstAndLastNumber() {
        Rangecard x = new Rangecard();
        x.fourSmall(5, 1, 3, 2, 4);
        CHECK.due("take(5, 0, 0)", x.take(5, 0, 0), 1);
        CHECK.due("take(5, 3, 7)", x.take(5, 3, 7), 4);
        String[] wants = {"1", "0", "0", "0", "0", "0", "0", "4"};
        for (int number = 0; number < 8; number++) {
            CHECK.due("the NUMBER " + number, x.numberText(number), wants[number]);
        }
    }

    private static void cardTextAtTheEnds() {
        CHECK.due("cardText() without a RANGE", new Rangecard().cardText(5), "-");
        CHECK.due("cardText() of zeros", withRange(0, 0, 0, 0).cardText(0), "0 0 0 0");
        CHECK.due("cardText() below 0", withRange(-4, -2, -3, -1).cardText(0), "-4 -2 -3 -1");
        Rangecard x = withRange(Wide.LEAST, Wide.LEAST, Wide.LEAST, Wide.LEAST);
        CHECK.due("cardText() of -2^63", x.cardText(0),
            "-9223372036854775808 -9223372036854775808 -9223372036854775808 -9223372036854775808");
        x = withRange(Wide.GREATEST, Wide.GREATEST, Wide.GREATEST, Wide.GREATEST);
        CHECK.due("cardText() of 2^63 - 1", x.cardText(0),
            "9223372036854775807 9223372036854775807 9223372036854775807 9223372036854775807");
        for (long t : Wide.turns()) {
            CHECK.due("cardText()", withRange(t, t + 1, t, t + 1).cardText(0), Wide.text(t, t + 1, t, t + 1));
        }
    }

    private static boolean isValid(Rangecard x, long value) {
        Wide.put(x, 7, value);
        return x.isValid(0, 7);
    }

    private static boolean isValidSmall(Rangecard x, long value) {
        Wide.put(x, 7, value);
        return x.isValidSmall(0, 7);
    }

    private static void validTurnsAtLeast() {
        for (long t : Wide.turns()) {
            Rangecard x = withRange(t + 1, Wide.GREATEST, Wide.GREATEST, Wide.GREATEST);
            CHECK.due("isValid() of 1 below LEAST " + (t + 1), isValid(x, t), false);
            CHECK.due("isValid() of LEAST " + (t + 1), isValid(x, t + 1), true);
            CHECK.due("isValid() of GREATEST", isValid(x, Wide.GREATEST), true);
            x = withRange(t, Wide.GREATEST, Wide.GREATEST, Wide.GREATEST);
            CHECK.due("isValid() of LEAST " + t, isValid(x, t), true);
            CHECK.due("isValid() of 1 above LEAST " + t, isValid(x, t + 1), true);
            CHECK.due("isValid() of -2^63 from " + t, isValid(x, Wide.LEAST), t == Wide.LEAST);
        }
    }

    private static void validTurnsAtGreatest() {
        for (long t : Wide.turns()) {
            Rangecard x = withRange(Wide.LEAST, Wide.LEAST, Wide.LEAST, t);
            CHECK.due("isValid() of 1 above GREATEST " + t, isValid(x, t + 1), false);
            CHECK.due("isValid() of GREATEST " + t, isValid(x, t), true);
            CHECK.due("isValid() of LEAST", isValid(x, Wide.LEAST), true);
            x = withRange(Wide.LEAST, Wide.LEAST, Wide.LEAST, t + 1);
            CHECK.due("isValid() of GREATEST " + (t + 1), isValid(x, t + 1), true);
            CHECK.due("isValid() of 1 below GREATEST " + (t + 1), isValid(x, t), true);
            CHECK.due("isValid() of 2^63 - 1 to " + (t + 1), isValid(x, Wide.GREATEST), t + 1 == Wide.GREATEST);
        }
    }

    /** The inner ENDS bound nothing. */
    private static void validWithinWhatIsOpen() {
        Rangecard x = withRange(10, 20, 30, 40);
        long[] values = {9, 10, 11, 19, 20, 21, 29, 30, 31, 39, 40, 41};
        for (long value : values) {
            CHECK.due("isValid() of " + value, isValid(x, value), value >= 10 && value <= 40);
            CHECK.due("isValidSmall() of " + value, isValidSmall(x, value), value >= 10 && value <= 40);
        }
        x = withRange(10, 30, 20, 40);
        for (long value : values) {
            CHECK.due("isValid() crosswise of " + value, isValid(x, value), value >= 10 && value <= 40);
        }
    }

    private static void validAtTheEndsOfSixtyFourBits() {
        Rangecard x = withRange(Wide.LEAST, Wide.LEAST, Wide.GREATEST, Wide.GREATEST);
        for (long t : Wide.turns()) {
            CHECK.due("isValid() in the whole of " + t, isValid(x, t), true);
            CHECK.due("isValid() in the whole of " + (t + 1), isValid(x, t + 1), true);
            CHECK.due("isValidSmall() in the whole of " + t, isValidSmall(x, t), false);
        }
        x = withRange(5, 5, 6, 6);
        CHECK.due("isValid() of 5 and 2^32", isValid(x, 4294967301L), false);
        CHECK.due("isValidSmall() of 5 and 2^32", isValidSmall(x, 4294967301L), false);
    }

    private static void validAsSmallOnlyInSmall() {
        Rangecard x = withRange(Wide.SMALL_LEAST, 0, 0, Wide.SMALL_GREATEST);
        CHECK.due("isValidSmall() of -2^31", isValidSmall(x, Wide.SMALL_LEAST), true);
        CHECK.due("isValidSmall() of 1 below", isValidSmall(x, Wide.SMALL_LEAST - 1), false);
        CHECK.due("isValidSmall() of 2^31 - 1", isValidSmall(x, Wide.SMALL_GREATEST), true);
        CHECK.due("isValidSmall() of 1 above", isValidSmall(x, Wide.SMALL_GREATEST + 1), false);
        x = withRange(Wide.SMALL_LEAST - 1, 0, 0, Wide.SMALL_GREATEST);
        CHECK.due("isValid() of 0 from 1 below", isValid(x, 0), true);
        CHECK.due("isValidSmall() of 0 from 1 below", isValidSmall(x, 0), false);
        CHECK.due("isValidSmall() of LEAST there", isValidSmall(x, Wide.SMALL_LEAST - 1), false);
        x = withRange(Wide.SMALL_LEAST, 0, 0, Wide.SMALL_GREATEST + 1);
        CHECK.due("isValid() of 0 to 1 above", isValid(x, 0), true);
        CHECK.due("isValidSmall() of 0 to 1 above", isValidSmall(x, 0), false);
        CHECK.due("isValidSmall() of GREATEST there", isValidSmall(x, Wide.SMALL_GREATEST + 1), false);
        x = withRange(1, 1, 4, 4);
        CHECK.due("isValidSmall() of 0 in 1 to 4", isValidSmall(x, 0), false);
        CHECK.due("isValidSmall() of 1 in 1 to 4", isValidSmall(x, 1), true);
        CHECK.due("isValidSmall() of 4 in 1 to 4", isValidSmall(x, 4), true);
        CHECK.due("isValidSmall() of 5 in 1 to 4", isValidSmall(x, 5), false);
    }

    private static void whichValidTurns() {
        Rangecard x = withRange(-2, 0, 0, 3);
        int[] wants = {0, 2, 2, 2, 2, 2, 2, 0};
        for (int i = 0; i < wants.length; i++) {
            CHECK.due("whichValid(0, " + (i - 3) + ")", x.whichValid(0, i - 3), wants[i]);
        }
        x = withRange(-2, 0, 0, 2147483648L);
        CHECK.due("whichValid(0, -3), not SMALL", x.whichValid(0, -3), 0);
        CHECK.due("whichValid(0, -2), not SMALL", x.whichValid(0, -2), 1);
        x = withRange(-2147483649L, 0, 0, 3);
        CHECK.due("whichValid(0, 3), not SMALL", x.whichValid(0, 3), 1);
        CHECK.due("whichValid(0, 4), not SMALL", x.whichValid(0, 4), 0);
    }

    private static void whichValidAtTheEndsOfThirtyTwoBits() {
        Rangecard x = withRange(MIN, MIN, MAX, MAX);
        CHECK.due("whichValid(0, MIN), all that is SMALL", x.whichValid(0, MIN), 2);
        CHECK.due("whichValid(0, MAX), all that is SMALL", x.whichValid(0, MAX), 2);
        x = withRange(MIN + 1L, MIN + 1L, MAX - 1L, MAX - 1L);
        CHECK.due("whichValid(0, MIN), 1 less on each side", x.whichValid(0, MIN), 0);
        CHECK.due("whichValid(0, MIN + 1)", x.whichValid(0, MIN + 1), 2);
        CHECK.due("whichValid(0, MAX - 1)", x.whichValid(0, MAX - 1), 2);
        CHECK.due("whichValid(0, MAX)", x.whichValid(0, MAX), 0);
        x = withRange(Wide.LEAST, Wide.LEAST, Wide.GREATEST, Wide.GREATEST);
        CHECK.due("whichValid(0, MIN), the whole", x.whichValid(0, MIN), 1);
        CHECK.due("whichValid(0, MAX), the whole", x.whichValid(0, MAX), 1);
        x = withRange(Wide.SMALL_GREATEST + 1, Wide.GREATEST, Wide.GREATEST, Wide.GREATEST);
        CHECK.due("whichValid(0, MIN) from 2^31 on", x.whichValid(0, MIN), 0);
        CHECK.due("whichValid(0, MAX) from 2^31 on", x.whichValid(0, MAX), 0);
    }

    private static void around(Rangecard x, boolean asSmall, int... wants) {
        for (int what = 0; what < 4; what++) {
            String call = "around(0, " + what + ", " + asSmall + ") of " + x.cardText(0);
            CHECK.due(call, x.around(0, what, asSmall), wants[what]);
        }
    }

    private static void aroundEachEnd() {
        around(withRange(1, 5, 3, 9), false, 6, 7, 7, 3);
        around(withRange(1, 2, 8, 9), false, 6, 7, 7, 3);
        around(withRange(1, 1, 9, 9), false, 6, 6, 3, 3);
        around(withRange(1, 9, 1, 9), false, 6, 3, 6, 3);
        around(withRange(4, 4, 4, 4), false, 2, 2, 2, 2);
        around(withRange(4, 4, 5, 5), false, 6, 6, 3, 3);
        around(withRange(4, 5, 4, 6), false, 6, 7, 6, 3);
    }

    private static void aroundAsSmall() {
        long low = Wide.SMALL_LEAST;
        long top = Wide.SMALL_GREATEST;
        around(withRange(1, 5, 3, 9), true, 6, 7, 7, 3);
        around(withRange(4, 4, 4, 4), true, 2, 2, 2, 2);
        around(withRange(low, low + 1, top - 1, top), true, 6, 7, 7, 3);
        around(withRange(low, low, low, low), true, 2, 2, 2, 2);
        around(withRange(top, top, top, top), true, 2, 2, 2, 2);
        around(withRange(top, top, top, top), false, 2, 2, 2, 2);
        around(withRange(low - 1, low, top, top), true, 0, 0, 0, 0);
        around(withRange(low - 1, low, top, top), false, 6, 7, 3, 3);
        around(withRange(low, low, top, top + 1), true, 0, 0, 0, 0);
        around(withRange(low, low, top, top + 1), false, 6, 6, 7, 3);
    }

    private static void aroundWrapsBelowLeast() {
        long low = Wide.LEAST;
        long top = Wide.GREATEST;
        around(withRange(low, low, low, low), false, 2, 2, 2, 2);
        around(withRange(low, low, low, low + 1), false, 6, 6, 6, 3);
        around(withRange(low, low + 1, 0, top - 1), false, 6, 7, 7, 3);
        around(withRange(low, low, low, top), false, 7, 7, 7, 7);
        around(withRange(low, low, low, top), true, 0, 0, 0, 0);
    }

    private static void aroundWrapsAboveGreatest() {
        long low = Wide.LEAST;
        long top = Wide.GREATEST;
        around(withRange(top, top, top, top), false, 2, 2, 2, 2);
        around(withRange(top - 1, top, top, top), false, 6, 3, 3, 3);
        around(withRange(low + 1, 0, top - 1, top), false, 6, 7, 7, 3);
        around(withRange(low, top, top, top), false, 7, 7, 7, 7);
        around(withRange(low, top, top, top), true, 0, 0, 0, 0);
    }

    private static void countOfOneAndOfSixty() {
        Rangecard x = withRange(-5, 0, 3, 5);
        CHECK.due("count(0, -6, 1)", x.count(0, -6, 1), 0);
        CHECK.due("count(0, -5, 1)", x.count(0, -5, 1), 1);
        CHECK.due("count(0, 5, 1)", x.count(0, 5, 1), 1);
        CHECK.due("count(0, 6, 1)", x.count(0, 6, 1), 0);
        CHECK.due("count(0, -30, 60)", x.count(0, -30, 60), 11);
        x = withRange(0, 0, 59, 59);
        CHECK.due("count(0, 0, 60) of sixty", x.count(0, 0, 60), 60);
        CHECK.due("count(0, 1, 60) of sixty", x.count(0, 1, 60), 59);
        CHECK.due("count(0, -1, 60) of sixty", x.count(0, -1, 60), 59);
        CHECK.due("count(0, 0, 59) of sixty", x.count(0, 0, 59), 59);
        Check.Given given = () -> withRange(0, 0, 59, 59);
        for (int bad : new int[] {MIN, -60, -1, 0, 61, 62, MAX}) {
            CHECK.stays("count(0, 0, " + bad + ")", given, y -> y.count(0, 0, bad), IllegalArgumentException.class);
        }
    }

    private static void countTurnsAtBothEnds() {
        Rangecard x = withRange(100, 100, 200, 200);
        CHECK.due("count() up to 99", x.count(0, 40, 60), 0);
        CHECK.due("count() up to 100", x.count(0, 41, 60), 1);
        CHECK.due("count() from 100", x.count(0, 100, 60), 60);
        CHECK.due("count() up to 200", x.count(0, 141, 60), 60);
        CHECK.due("count() up to 201", x.count(0, 142, 60), 59);
        CHECK.due("count() from 200", x.count(0, 200, 60), 1);
        CHECK.due("count() from 201", x.count(0, 201, 60), 0);
    }

    private static void countGoesOnAboveThirtyTwoBits() {
        Rangecard x = withRange(Wide.LEAST, Wide.LEAST, Wide.GREATEST, Wide.GREATEST);
        CHECK.due("count(0, MAX, 60) of the whole", x.count(0, MAX, 60), 60);
        CHECK.due("count(0, MIN, 60) of the whole", x.count(0, MIN, 60), 60);
        x = withRange(MIN, MIN, MAX, MAX);
        CHECK.due("count(0, MAX, 60) of all that is SMALL", x.count(0, MAX, 60), 1);
        CHECK.due("count(0, MAX - 58, 60) of all that is SMALL", x.count(0, MAX - 58, 60), 59);
        CHECK.due("count(0, MAX - 59, 60) of all that is SMALL", x.count(0, MAX - 59, 60), 60);
        CHECK.due("count(0, MIN, 60) of all that is SMALL", x.count(0, MIN, 60), 60);
        x = withRange(2147483648L, 2147483648L, 2147483650L, 2147483650L);
        CHECK.due("count(0, MAX, 1) from 2^31 on", x.count(0, MAX, 1), 0);
        CHECK.due("count(0, MAX, 2) from 2^31 on", x.count(0, MAX, 2), 1);
        CHECK.due("count(0, MAX, 60) from 2^31 on", x.count(0, MAX, 60), 3);
        x = withRange(Wide.LEAST, Wide.LEAST, Wide.SMALL_LEAST, Wide.SMALL_LEAST);
        CHECK.due("count(0, MAX, 60) up to -2^31", x.count(0, MAX, 60), 0);
        CHECK.due("count(0, MIN, 60) up to -2^31", x.count(0, MIN, 60), 1);
    }

    private static void whoOfNoneOneAndAll() {
        Rangecard none = new Rangecard();
        for (int number = 0; number < 8; number++) {
            CHECK.due("who(" + number + ", 0) of none", none.who(number, 0), 0);
            CHECK.due("who(" + number + ", 1) of none", none.who(number, 1), 0);
        }
        int all = 0;
        Rangecard x = new Rangecard();
        for (int card = 0; card < 6; card++) {
            Rangecard one = new Rangecard();
            one.twoSmall(card, 0, 0);
            CHECK.due("who(7, 0) of " + card + " alone", one.who(7, 0), 1 << card);
            CHECK.due("who(7, 1) of " + card + " alone", one.who(7, 1), 1 << card);
            one.move(7, 1);
            CHECK.due("who(7, 0) of 1 above", one.who(7, 0), 0);
            one.move(7, -2);
            CHECK.due("who(7, 0) of 1 below", one.who(7, 0), 0);
            x.twoSmall(card, 0, 0);
            all += 1 << card;
            CHECK.due("who(0, 0) of 0 to " + card, x.who(0, 0), all);
        }
        CHECK.due("who(0, 1) of six", x.who(0, 1), 63);
    }

    private static void whoAsSmall() {
        Rangecard x = new Rangecard();
        Wide.two(x, 0, Wide.SMALL_LEAST, Wide.SMALL_GREATEST);
        Wide.two(x, 1, Wide.SMALL_LEAST - 1, Wide.SMALL_GREATEST);
        Wide.two(x, 4, Wide.SMALL_LEAST, Wide.SMALL_GREATEST + 1);
        Wide.two(x, 5, Wide.LEAST, Wide.GREATEST);
        CHECK.due("who(0, 0) of 0", x.who(0, 0), 51);
        CHECK.due("who(0, 1) of 0", x.who(0, 1), 1);
        x.setEnd(0, 3);
        x.move(0, 1);
        CHECK.due("who(0, 0) of 2^31", x.who(0, 0), 48);
        CHECK.due("who(0, 1) of 2^31", x.who(0, 1), 0);
        x.setEnd(0, 2);
        x.move(0, -1);
        CHECK.due("who(0, 0) of -2^31 - 1", x.who(0, 0), 34);
        x.setEnd(0, 0);
        CHECK.due("who(0, 0) of -2^63", x.who(0, 0), 32);
        x.setEnd(0, 1);
        CHECK.due("who(0, 0) of 2^63 - 1", x.who(0, 0), 32);
    }

    private static void whichOfNoneOneAndAll() {
        for (int what = 0; what < 3; what++) {
            CHECK.due("which(" + what + ") of none", new Rangecard().which(what), 0);
            Rangecard all = new Rangecard();
            for (int card = 0; card < 6; card++) {
                Rangecard one = new Rangecard();
                one.twoSmall(card, MIN, MAX);
                CHECK.due("which(" + what + ") of " + card + " alone", one.which(what), 1 << card);
                all.twoSmall(card, MIN, MAX);
            }
            CHECK.due("which(" + what + ") of six", all.which(what), 63);
        }
        for (int card = 0; card < 6; card++) {
            Rangecard x = new Rangecard();
            Wide.four(x, card, Wide.SMALL_LEAST - 1, 0, 0, 0);
            CHECK.due("which(0) of an open one", x.which(0), 1 << card);
            CHECK.due("which(1) of an open one", x.which(1), 0);
            CHECK.due("which(2) of one that is not SMALL", x.which(2), 0);
        }
    }

    private static void sameAsNothingAndText() {
        for (int card = 0; card < 6; card++) {
            int asked = card;
            CHECK.stays("isSameAs(" + card + ", 0)", Scene.FULL::make, x -> x.isSameAs(asked, 0), false);
            CHECK.stays("isSameAs(" + card + ", 1)", Scene.FULL::make, x -> x.isSameAs(asked, 1), false);
        }
    }

    private static void sameAsItsOwnEnds() {
        for (int card = 0; card < 6; card++) {
            int asked = card;
            CHECK.stays("isSameAs(" + card + ", 2)", Scene.FULL::make, x -> x.isSameAs(asked, 2), true);
            CHECK.stays("isSameAs(" + card + ", 3)", Scene.FULL::make, x -> x.isSameAs(asked, 3), true);
        }
    }

    private static void sameAsItsOuterEnds() {
        boolean[] wants = {true, false, false, true, true, false};
        for (int card = 0; card < 6; card++) {
            int asked = card;
            CHECK.stays("isSameAs(" + card + ", 4)", Scene.FULL::make, x -> x.isSameAs(asked, 4), wants[card]);
        }
        CHECK.due("isSameAs(0, 4) with an open LEAST", withRange(1, 2, 2, 2).isSameAs(0, 4), false);
        CHECK.due("isSameAs(0, 4) with an open GREATEST", withRange(1, 1, 1, 2).isSameAs(0, 4), false);
        CHECK.due("isSameAs(0, 4) of one number", withRange(1, 1, 1, 1).isSameAs(0, 4), true);
    }

    private static void likesItselfAlone() {
        for (int card = 0; card < 6; card++) {
            Rangecard one = new Rangecard();
            one.twoSmall(card, 1, 2);
            CHECK.due("likes(" + card + ") of it alone", one.likes(card), 1 << card);
        }
        Rangecard x = new Rangecard();
        for (int card = 0; card < 6; card++) {
            x.twoSmall(card, card, 9);
        }
        for (int card = 0; card < 6; card++) {
            CHECK.due("likes(" + card + ") of six unlike ones", x.likes(card), 1 << card);
        }
    }

    /** Made in each way there is, and the SAME. */
    private static void likesAllSix() {
        Rangecard x = new Rangecard();
        x.twoSmall(0, 1, 4);
        x.threeSmall(1, 1, 4, 4);
        x.fourSmall(2, 1, 1, 4, 4);
        x.again(3, 0);
        x.same(4, 0);
        x.outer(5, 0);
        for (int card = 0; card < 6; card++) {
            CHECK.due("likes(" + card + ") of six", x.likes(card), 63);
        }
        x.drop(3);
        CHECK.due("likes(0) without 3", x.likes(0), 55);
        Rangecard wide = new Rangecard();
        Wide.two(wide, 0, Wide.LEAST, Wide.GREATEST);
        Wide.three(wide, 2, Wide.LEAST, Wide.GREATEST, Wide.GREATEST);
        Wide.four(wide, 5, Wide.LEAST, Wide.LEAST, Wide.GREATEST, Wide.GREATEST);
        CHECK.due("likes(0) of the whole", wide.likes(0), 37);
    }

    private static void askingChangesNothing() {
        CHECK.stays("ofNumber()", Scene.FULL::make, x -> x.ofNumber(3, true), MIN);
        CHECK.stays("numberText()", Scene.FULL::make, x -> x.numberText(7), "-5");
        CHECK.stays("order()", Scene.FULL::make, x -> x.order(0, 1), 1);
        CHECK.stays("isThere()", Scene.FULL::make, x -> x.isThere(0), true);
        CHECK.stays("isFixed()", Scene.FULL::make, x -> x.isFixed(1), false);
        CHECK.stays("isSmall()", Scene.FULL::make, x -> x.isSmall(5), false);
        CHECK.stays("end()", Scene.FULL::make, x -> x.end(1, 2, false), 5);
        CHECK.stays("cardText()", Scene.FULL::make, x -> x.cardText(1), "3 3 5 7");
        CHECK.stays("isValid()", Scene.FULL::make, x -> x.isValid(0, 0), true);
        CHECK.stays("isValidSmall()", Scene.FULL::make, x -> x.isValidSmall(2, 0), false);
        CHECK.stays("whichValid()", Scene.FULL::make, x -> x.whichValid(5, 0), 1);
        CHECK.stays("around()", Scene.FULL::make, x -> x.around(3, 0, false), 7);
        CHECK.stays("count()", Scene.FULL::make, x -> x.count(0, 0, 60), 5);
        CHECK.stays("who()", Scene.FULL::make, x -> x.who(0, 0), 63);
        CHECK.stays("which()", Scene.FULL::make, x -> x.which(1), 25);
        CHECK.stays("areSame()", Scene.FULL::make, x -> x.areSame(0, 4), true);
        CHECK.stays("likes()", Scene.FULL::make, x -> x.likes(4), 17);
    }
}
