/** Promises 10 to 22 where a CARD gets or loses its RANGE: with one before and without, its own, first and last. */
public final class CardEdgesTest {
    private static final Check CHECK = new Check("CardEdgesTest");
    private static final int MIN = Integer.MIN_VALUE;
    private static final int MAX = Integer.MAX_VALUE;

    /** Two that are just SMALL numbers, and two that are just not. */
    private static final long[] SMALL_TURNS = {Wide.SMALL_LEAST - 1, Wide.SMALL_LEAST, Wide.SMALL_GREATEST,
        Wide.SMALL_GREATEST + 1};

    public static void main(String[] args) {
        firstAndLastCardAndNumberAreLet();
        oneNumberForAllEnds();
        numbersOfThirtyTwoBits();
        rangeKeepsItsEndsWhenNumbersChange();
        againCountsEachSmallEnd();
        againCountsNoneAndAll();
        againOfItsOwn();
        againReplacesWhatWasThere();
        sameTellsNoneWithoutOne();
        sameTellsOneForTheSame();
        sameTellsZeroForEachEndThatDiffers();
        sameOfItsOwn();
        sameIsTheVeryRange();
        outerTellsWhetherItIsTheSame();
        outerOfItsOwnTellsOfWhatWas();
        outerOfTheWhole();
        innerOfItsOwn();
        spanOfItsOwn();
        shiftOfItsOwnAlone();
        dropOfEachCard();
        dropOfNone();
        CHECK.end();
    }

    private static Rangecard withNumbers() {
        Rangecard x = new Rangecard();
        for (int number = 0; number < 8; number++) {
            x.setSmall(number, number * 10);
        }
        return x;
    }

    private static void firstAndLastCardAndNumberAreLet() {
        for (int card = 0; card < 6; card += 5) {
            Rangecard x = withNumbers();
            CHECK.due("two()", x.two(card, 0, 7), 1);
            CHECK.due("its RANGE", x.cardText(card), "0 0 70 70");
            CHECK.due("three()", x.three(card, 0, 6, 7), 1);
            CHECK.due("its RANGE", x.cardText(card), "0 0 60 70");
            CHECK.due("four()", x.four(card, 0, 1, 6, 7), 1);
            CHECK.due("its RANGE", x.cardText(card), "0 10 60 70");
            CHECK.due("twoSmall()", x.twoSmall(card, 1, 2), 1);
            CHECK.due("its RANGE", x.cardText(card), "1 1 2 2");
            CHECK.due("threeSmall()", x.threeSmall(card, 1, 2, 3), 1);
            CHECK.due("its RANGE", x.cardText(card), "1 1 2 3");
            CHECK.due("fourSmall()", x.fourSmall(card, 1, 2, 3, 4), 1);
            CHECK.due("its RANGE", x.cardText(card), "1 2 3 4");
            CHECK.due("house(0)", x.house(0), 1);
            CHECK.due("house(4)", x.house(4), 6);
        }
    }

    private static void oneNumberForAllEnds() {
        Rangecard x = withNumbers();
        CHECK.due("two(0, 7, 7)", x.two(0, 7, 7), 1);
        CHECK.due("its RANGE", x.cardText(0), "70 70 70 70");
        CHECK.due("three(1, 7, 7, 7)", x.three(1, 7, 7, 7), 1);
        CHECK.due("its RANGE", x.cardText(1), "70 70 70 70");
        CHECK.due("four(2, 7, 7, 7, 7)", x.four(2, 7, 7, 7, 7), 1);
        CHECK.due("its RANGE", x.cardText(2), "70 70 70 70");
    }

    private static void numbersOfThirtyTwoBits() {
        Rangecard x = new Rangecard();
        CHECK.due("twoSmall(0, MIN, MAX)", x.twoSmall(0, MIN, MAX), 1);
        CHECK.due("its RANGE", x.cardText(0), "-2147483648 -2147483648 2147483647 2147483647");
        CHECK.due("threeSmall(0, MIN, MIN, MAX)", x.threeSmall(0, MIN, MIN, MAX), 1);
        CHECK.due("its RANGE", x.cardText(0), "-2147483648 -2147483648 -2147483648 2147483647");
        CHECK.due("threeSmall(0, MIN, MAX, MAX)", x.threeSmall(0, MIN, MAX, MAX), 1);
        CHECK.due("its RANGE", x.cardText(0), "-2147483648 -2147483648 2147483647 2147483647");
        CHECK.due("fourSmall(0, MIN, MAX, MIN, MAX)", x.fourSmall(0, MIN, MAX, MIN, MAX), 1);
        CHECK.due("its RANGE", x.cardText(0), "-2147483648 2147483647 -2147483648 2147483647");
        CHECK.due("fourSmall(0, MAX, MAX, MAX, MAX)", x.fourSmall(0, MAX, MAX, MAX, MAX), 1);
        CHECK.due("its RANGE", x.cardText(0), "2147483647 2147483647 2147483647 2147483647");
        CHECK.due("fourSmall(0, MIN, MIN, MIN, MIN)", x.fourSmall(0, MIN, MIN, MIN, MIN), 1);
        CHECK.due("its RANGE", x.cardText(0), "-2147483648 -2147483648 -2147483648 -2147483648");
    }

    private static void rangeKeepsItsEndsWhenNumbersChange() {
        Rangecard x = withNumbers();
        x.four(0, 1, 2, 3, 4);
        for (int number = 0; number < 8; number++) {
            x.setEnd(number, 0);
        }
        CHECK.due("the RANGE", x.cardText(0), "10 20 30 40");
        x.take(0, 3, 1);
        x.move(1, 5);
        CHECK.due("the RANGE when what was taken moves", x.cardText(0), "10 20 30 40");
    }

    /** All RANGES of four of the numbers at which SMALL turns, so that each END has each of them. */
    private static void againCountsEachSmallEnd() {
        for (int draw = 0; draw < 256; draw++) {
            long a = SMALL_TURNS[draw % 4];
            long b = SMALL_TURNS[draw / 4 % 4];
            long c = SMALL_TURNS[draw / 16 % 4];
            long d = SMALL_TURNS[draw / 64];
            Rangecard x = new Rangecard();
            if (Wide.four(x, 0, a, b, c, d) != 1) {
                continue;
            }
            int want = 0;
            for (long end : new long[] {a, b, c, d}) {
                want += Wide.isSmall(end) ? 1 : 0;
            }
            CHECK.due("again(5, 0) of " + x.cardText(0), x.again(5, 0), want);
            CHECK.due("its RANGE", x.cardText(5), Wide.text(a, b, c, d));
        }
    }

    private static void againCountsNoneAndAll() {
        Rangecard x = new Rangecard();
        Wide.two(x, 0, Wide.LEAST, Wide.GREATEST);
        CHECK.due("again() of the whole", x.again(1, 0), 0);
        Wide.two(x, 0, Wide.SMALL_LEAST, Wide.SMALL_GREATEST);
        CHECK.due("again() of all that is SMALL", x.again(1, 0), 4);
        Wide.four(x, 0, Wide.LEAST, Wide.SMALL_LEAST, Wide.SMALL_GREATEST, Wide.GREATEST);
        CHECK.due("again() with SMALL ENDS within", x.again(1, 0), 2);
        Wide.four(x, 0, 4294967296L, 4294967296L, 4294967297L, 4294967297L);
        CHECK.due("again() where only LOW are small", x.again(1, 0), 0);
    }

    private static void againOfItsOwn() {
        Rangecard x = new Rangecard();
        x.fourSmall(5, 1, 3, 2, 4);
        CHECK.due("again(5, 5)", x.again(5, 5), 4);
        CHECK.due("its RANGE", x.cardText(5), "1 3 2 4");
        CHECK.due("house(4)", x.house(4), 2);
        CHECK.due("house(0)", x.house(0), 1);
    }

    private static void againReplacesWhatWasThere() {
        Rangecard x = new Rangecard();
        x.fourSmall(0, 1, 3, 2, 4);
        x.twoSmall(5, 7, 8);
        CHECK.due("again(5, 0)", x.again(5, 0), 4);
        CHECK.due("its RANGE", x.cardText(5), "1 3 2 4");
        CHECK.due("the other one's RANGE", x.cardText(0), "1 3 2 4");
        CHECK.due("house(4)", x.house(4), 3);
    }

    private static void sameTellsNoneWithoutOne() {
        Rangecard x = new Rangecard();
        x.fourSmall(5, 1, 2, 3, 4);
        CHECK.due("same(0, 5) without one", x.same(0, 5), -1);
        CHECK.due("its RANGE", x.cardText(0), "1 2 3 4");
        x.drop(0);
        CHECK.due("same(0, 5) after drop()", x.same(0, 5), -1);
        CHECK.due("house(2)", x.house(2), 0);
        CHECK.due("house(4)", x.house(4), 1);
    }

    private static void sameTellsOneForTheSame() {
        Rangecard x = new Rangecard();
        x.fourSmall(5, 1, 2, 3, 4);
        x.fourSmall(0, 1, 2, 3, 4);
        CHECK.due("same(0, 5) with one made alike", x.same(0, 5), 1);
        CHECK.due("same(0, 5) with the very one", x.same(0, 5), 1);
        Wide.two(x, 1, Wide.LEAST, Wide.GREATEST);
        Wide.four(x, 2, Wide.LEAST, Wide.LEAST, Wide.GREATEST, Wide.GREATEST);
        CHECK.due("same(1, 2), both the whole", x.same(1, 2), 1);
    }

    /** Of two that differ by 1 in one END, or by 2^32, so that LOW stay alike. */
    private static void sameTellsZeroForEachEndThatDiffers() {
        long far = 4294967296L;
        long[][] others = {{9, 30, 20, 40}, {11, 30, 20, 40}, {10, 29, 20, 40}, {10, 31, 20, 40}, {10, 30, 19, 40},
            {10, 30, 21, 40}, {10, 30, 20, 39}, {10, 30, 20, 41}, {10 - far, 30, 20, 40}, {10, 30, 20, 40 + far}};
        for (long[] e : others) {
            Rangecard x = new Rangecard();
            x.fourSmall(0, 10, 30, 20, 40);
            Wide.four(x, 1, e[0], e[1], e[2], e[3]);
            CHECK.due("areSame(1, 0) with " + x.cardText(1), x.areSame(1, 0), false);
            CHECK.due("areSame(0, 1) with " + x.cardText(1), x.areSame(0, 1), false);
            CHECK.due("likes(0) with " + x.cardText(1), x.likes(0), 1);
            CHECK.due("same(1, 0) with " + x.cardText(1), x.same(1, 0), 0);
            CHECK.due("its RANGE", x.cardText(1), "10 30 20 40");
        }
        Rangecard x = new Rangecard();
        Wide.four(x, 0, -far, 0, 0, far);
        Wide.four(x, 1, -far, far, 0, far);
        CHECK.due("areSame() where only HIGH of LEAST AT MOST differ", x.areSame(0, 1), false);
        Wide.four(x, 1, -far, 0, -far, far);
        CHECK.due("areSame() where only HIGH of GREATEST AT LEAST differ", x.areSame(0, 1), false);
    }

    private static void sameOfItsOwn() {
        Rangecard x = new Rangecard();
        x.fourSmall(5, 1, 3, 2, 4);
        CHECK.due("same(5, 5)", x.same(5, 5), 1);
        CHECK.due("its RANGE", x.cardText(5), "1 3 2 4");
        CHECK.due("house(4)", x.house(4), 1);
    }

    private static void sameIsTheVeryRange() {
        Rangecard x = new Rangecard();
        x.fourSmall(0, 1, 3, 2, 4);
        x.same(1, 0);
        x.lay(0);
        x.shift(0, 1);
        CHECK.due("the given one when the giver shifts", x.cardText(1), "1 3 2 4");
        x.drop(0);
        CHECK.due("the given one when the giver drops", x.cardText(1), "1 3 2 4");
        x.outer(1, 1);
        x.pick(0, 2);
        CHECK.due("the laid one when both have others", x.cardText(2), "1 3 2 4");
    }

    private static void outerIs(long a, long b, long c, long d, int want) {
        Rangecard x = new Rangecard();
        Wide.four(x, 0, a, b, c, d);
        CHECK.due("outer(5, 0) of " + x.cardText(0), x.outer(5, 0), want);
        CHECK.due("its RANGE", x.cardText(5), Wide.text(a, a, d, d));
        CHECK.due("the other one's RANGE", x.cardText(0), Wide.text(a, b, c, d));
        CHECK.due("house(4)", x.house(4), 2);
    }

    private static void outerTellsWhetherItIsTheSame() {
        outerIs(1, 1, 4, 4, 1);
        outerIs(1, 1, 1, 1, 1);
        outerIs(1, 2, 4, 4, 0);
        outerIs(1, 1, 3, 4, 0);
        outerIs(1, 2, 3, 4, 0);
        outerIs(1, 4, 1, 4, 0);
        outerIs(1, 2, 1, 2, 0);
        outerIs(1, 2, 2, 2, 0);
        outerIs(1, 1, 1, 2, 0);
    }

    private static void outerOfItsOwnTellsOfWhatWas() {
        Rangecard x = new Rangecard();
        x.fourSmall(0, 1, 3, 2, 4);
        CHECK.due("outer(0, 0) of an open one", x.outer(0, 0), 0);
        CHECK.due("its RANGE", x.cardText(0), "1 1 4 4");
        CHECK.due("outer(0, 0) of a FIXED one", x.outer(0, 0), 1);
        CHECK.due("its RANGE", x.cardText(0), "1 1 4 4");
        CHECK.due("house(4)", x.house(4), 3);
    }

    private static void outerOfTheWhole() {
        outerIs(Wide.LEAST, Wide.LEAST, Wide.GREATEST, Wide.GREATEST, 1);
        outerIs(Wide.LEAST, Wide.LEAST + 1, Wide.GREATEST, Wide.GREATEST, 0);
        outerIs(Wide.LEAST, Wide.LEAST, Wide.GREATEST - 1, Wide.GREATEST, 0);
        outerIs(Wide.LEAST, Wide.GREATEST, Wide.LEAST, Wide.GREATEST, 0);
    }

    private static void innerOfItsOwn() {
        Rangecard x = new Rangecard();
        x.fourSmall(5, 1, 2, 3, 4);
        CHECK.due("inner(5, 5)", x.inner(5, 5), 1);
        CHECK.due("its RANGE", x.cardText(5), "2 2 3 3");
        CHECK.due("inner(5, 5) of a FIXED one", x.inner(5, 5), 1);
        CHECK.due("its RANGE", x.cardText(5), "2 2 3 3");
        CHECK.due("house(4)", x.house(4), 3);
    }

    private static void spanOfItsOwn() {
        Rangecard x = new Rangecard();
        x.fourSmall(5, 1, 3, 2, 4);
        CHECK.due("span(5, 5, 5)", x.span(5, 5, 5), 1);
        CHECK.due("its RANGE", x.cardText(5), "1 3 2 4");
        CHECK.due("span(0, 5, 5)", x.span(0, 5, 5), 1);
        CHECK.due("its RANGE", x.cardText(0), "1 3 2 4");
        CHECK.due("house(4)", x.house(4), 3);
    }

    private static void shiftOfItsOwnAlone() {
        Rangecard x = new Rangecard();
        x.fourSmall(5, 1, 3, 2, 4);
        x.same(0, 5);
        CHECK.due("shift(5, 1)", x.shift(5, 1), 1);
        CHECK.due("its RANGE", x.cardText(5), "2 4 3 5");
        CHECK.due("another CARD's", x.cardText(0), "1 3 2 4");
        CHECK.due("shift(5, 0)", x.shift(5, 0), 1);
        CHECK.due("its RANGE", x.cardText(5), "2 4 3 5");
        CHECK.due("house(4)", x.house(4), 3);
    }

    private static void dropOfEachCard() {
        for (int card = 0; card < 6; card++) {
            Rangecard x = Scene.FULL.make();
            CHECK.due("drop(" + card + ")", x.drop(card), 1);
            CHECK.due("house(0)", x.house(0), 5);
            CHECK.due("which(0)", x.which(0), 63 - (1 << card));
            CHECK.due("cardText(" + card + ")", x.cardText(card), "-");
            CHECK.due("drop(" + card + ") again", x.drop(card), 0);
            CHECK.due("house(1)", x.house(1), 12);
        }
    }

    private static void dropOfNone() {
        for (int card = 0; card < 6; card++) {
            int asked = card;
            CHECK.stays("drop(" + card + ") of none", Scene.NEW::make, x -> x.drop(asked), 0);
        }
    }
}
