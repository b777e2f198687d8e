import java.math.BigInteger;

/** The numbers of promises 2 to 9, where something turns: HIGH, LOW, digits, and what goes beyond 64 bits. */
public final class NumberEdgesTest {
    private static final Check CHECK = new Check("NumberEdgesTest");
    private static final int MIN = Integer.MIN_VALUE;
    private static final int MAX = Integer.MAX_VALUE;

    /** A number, its HIGH, its LOW. */
    private static final long[][] HALVES = {
        {0, 0, 0}, {1, 0, 1}, {-1, -1, -1},
        {2147483647L, 0, MAX}, {2147483648L, 0, MIN}, {2147483649L, 0, MIN + 1},
        {-2147483648L, -1, MIN}, {-2147483649L, -1, MAX}, {-2147483650L, -1, MAX - 1},
        {4294967295L, 0, -1}, {4294967296L, 1, 0}, {4294967297L, 1, 1},
        {-4294967295L, -1, 1}, {-4294967296L, -1, 0}, {-4294967297L, -2, -1},
        {Long.MAX_VALUE, MAX, -1}, {Long.MAX_VALUE - 1, MAX, -2},
        {Long.MIN_VALUE, MIN, 0}, {Long.MIN_VALUE + 1, MIN, 1},
        {9223372032559808512L, MAX, 0}, {9223372034707292160L, MAX, MIN}, {-9223372032559808513L, MIN, -1}};

    public static void main(String[] args) {
        numbersAreZeroAtFirst();
        highIsRoundedDownAndLowIsWhatIsLeft();
        setTakesLowBelowZeroAsMore();
        setTellsHighBefore();
        setSmallHas32Bits();
        setSmallTellsLowBefore();
        setEndTellsLowThen();
        moveUpWrapsAround();
        moveDownWrapsAround();
        moveOverTheEndsOfLow();
        moveByLeastAndGreatest();
        moveByNothing();
        copyOfTheSame();
        copyOfEachTurn();
        textOfEachLength();
        textAtTheEnds();
        orderOfNeighbours();
        orderOfFarOnes();
        onlyTheNumberThatIsNamedChanges();
        CHECK.end();
    }

    private static void numbersAreZeroAtFirst() {
        Rangecard x = new Rangecard();
        for (int number = 0; number < 8; number++) {
            CHECK.due("HIGH at first", x.ofNumber(number, true), 0);
            CHECK.due("LOW at first", x.ofNumber(number, false), 0);
            CHECK.due("order at first", x.order(number, 7 - number), 0);
        }
    }

    private static void highIsRoundedDownAndLowIsWhatIsLeft() {
        for (long[] row : HALVES) {
            Rangecard x = new Rangecard();
            CHECK.due("set()", x.set(3, (int) row[1], (int) row[2]), 0);
            CHECK.due("numberText() of " + row[0], x.numberText(3), Long.toString(row[0]));
            CHECK.due("HIGH of " + row[0], x.ofNumber(3, true), (int) row[1]);
            CHECK.due("LOW of " + row[0], x.ofNumber(3, false), (int) row[2]);
        }
    }

    /** high * 2^32, and low, and 2^32 more if that is below 0. */
    private static void setTakesLowBelowZeroAsMore() {
        int[] values = {MIN, MIN + 1, -2, -1, 0, 1, MAX - 1, MAX};
        for (int high : values) {
            for (int low : values) {
                Rangecard x = new Rangecard();
                x.set(0, high, low);
                BigInteger want = BigInteger.valueOf(high).shiftLeft(32).add(BigInteger.valueOf(low));
                if (low < 0) {
                    want = want.add(BigInteger.ONE.shiftLeft(32));
                }
                CHECK.due("set(0, " + high + ", " + low + ")", x.numberText(0), want.toString());
            }
        }
    }

    private static void setTellsHighBefore() {
        for (long[] row : HALVES) {
            Rangecard x = new Rangecard();
            Wide.put(x, 7, row[0]);
            CHECK.due("set() of what was " + row[0], x.set(7, 5, 6), (int) row[1]);
            CHECK.due("set() once more", x.set(7, 0, 0), 5);
        }
    }

    private static void setSmallHas32Bits() {
        for (int value : new int[] {MIN, MIN + 1, -1, 0, 1, MAX - 1, MAX}) {
            Rangecard x = new Rangecard();
            x.set(0, 77, 88);
            x.setSmall(0, value);
            CHECK.due("setSmall(0, " + value + ")", x.numberText(0), Integer.toString(value));
            CHECK.due("its HIGH", x.ofNumber(0, true), value < 0 ? -1 : 0);
            CHECK.due("its LOW", x.ofNumber(0, false), value);
        }
    }

    private static void setSmallTellsLowBefore() {
        for (long[] row : HALVES) {
            Rangecard x = new Rangecard();
            Wide.put(x, 7, row[0]);
            CHECK.due("setSmall() of what was " + row[0], x.setSmall(7, 5), (int) row[2]);
            CHECK.due("setSmall() once more", x.setSmall(7, 0), 5);
        }
    }

    private static void setEndTellsLowThen() {
        String[] texts = {"-9223372036854775808", "9223372036854775807", "-2147483648", "2147483647"};
        int[] lows = {0, -1, MIN, MAX};
        for (int number = 0; number < 8; number += 7) {
            for (int what = 0; what < 4; what++) {
                Rangecard x = new Rangecard();
                x.set(number, 77, 88);
                CHECK.due("setEnd(" + number + ", " + what + ")", x.setEnd(number, what), lows[what]);
                CHECK.due("the NUMBER", x.numberText(number), texts[what]);
            }
        }
    }

    private static void moves(long from, int by, long want) {
        Rangecard x = new Rangecard();
        Wide.put(x, 0, from);
        CHECK.due("move() of " + from + " by " + by, x.move(0, by), (int) want);
        CHECK.due("the NUMBER then", x.numberText(0), Long.toString(want));
    }

    private static void moveUpWrapsAround() {
        moves(Wide.GREATEST - 1, 1, Wide.GREATEST);
        moves(Wide.GREATEST, 1, Wide.LEAST);
        moves(Wide.GREATEST, 2, Wide.LEAST + 1);
        moves(Wide.GREATEST, MAX, -9223372034707292162L);
        moves(Wide.GREATEST - MAX, MAX, Wide.GREATEST);
        moves(Wide.GREATEST - MAX + 1, MAX, Wide.LEAST);
    }

    private static void moveDownWrapsAround() {
        moves(Wide.LEAST + 1, -1, Wide.LEAST);
        moves(Wide.LEAST, -1, Wide.GREATEST);
        moves(Wide.LEAST, -2, Wide.GREATEST - 1);
        moves(Wide.LEAST, MIN, 9223372034707292160L);
        moves(-9223372034707292160L, MIN, Wide.LEAST);
        moves(-9223372034707292161L, MIN, Wide.GREATEST);
    }

    /** A NUMBER goes on there, as only what goes beyond 64 bits wraps around. */
    private static void moveOverTheEndsOfLow() {
        moves(2147483647L, 1, 2147483648L);
        moves(2147483648L, -1, 2147483647L);
        moves(-2147483648L, -1, -2147483649L);
        moves(-2147483649L, 1, -2147483648L);
        moves(4294967295L, 1, 4294967296L);
        moves(4294967296L, -1, 4294967295L);
        moves(-4294967296L, -1, -4294967297L);
        moves(-1, 1, 0);
        moves(0, -1, -1);
    }

    private static void moveByLeastAndGreatest() {
        moves(0, MIN, -2147483648L);
        moves(0, MAX, 2147483647L);
        moves(2147483647L, MAX, 4294967294L);
        moves(-2147483648L, MIN, -4294967296L);
    }

    private static void moveByNothing() {
        for (long[] row : HALVES) {
            moves(row[0], 0, row[0]);
        }
    }

    private static void copyOfTheSame() {
        for (long[] row : HALVES) {
            Rangecard x = new Rangecard();
            Wide.put(x, 7, row[0]);
            CHECK.due("copy(7, 7) of " + row[0], x.copy(7, 7), (int) row[2]);
            CHECK.due("the NUMBER then", x.numberText(7), Long.toString(row[0]));
        }
    }

    private static void copyOfEachTurn() {
        for (long[] row : HALVES) {
            Rangecard x = new Rangecard();
            Wide.put(x, 7, row[0]);
            x.set(0, 5, 6);
            CHECK.due("copy(0, 7) of " + row[0], x.copy(0, 7), (int) row[2]);
            CHECK.due("the NUMBER then", x.numberText(0), Long.toString(row[0]));
            CHECK.due("the other one then", x.numberText(7), Long.toString(row[0]));
            x.move(7, 1);
            CHECK.due("the NUMBER when the other one moves", x.numberText(0), Long.toString(row[0]));
        }
    }

    /** 9, 10, 99, 100 and so on, to and fro of 0. */
    private static void textOfEachLength() {
        BigInteger ten = BigInteger.ONE;
        for (int digits = 1; digits <= 18; digits++) {
            ten = ten.multiply(BigInteger.TEN);
            long[] values = {ten.longValueExact() - 1, ten.longValueExact(), 1 - ten.longValueExact(),
                -ten.longValueExact()};
            for (long value : values) {
                Rangecard x = new Rangecard();
                Wide.put(x, 1, value);
                CHECK.due("numberText()", x.numberText(1), BigInteger.valueOf(value).toString());
            }
        }
    }

    private static void textAtTheEnds() {
        Rangecard x = new Rangecard();
        CHECK.due("numberText() of 0", x.numberText(0), "0");
        x.setSmall(0, -1);
        CHECK.due("numberText() of -1", x.numberText(0), "-1");
        x.setEnd(0, 0);
        CHECK.due("numberText() of -2^63", x.numberText(0), "-9223372036854775808");
        x.move(0, 1);
        CHECK.due("numberText() of 1 more", x.numberText(0), "-9223372036854775807");
        x.setEnd(0, 1);
        CHECK.due("numberText() of 2^63 - 1", x.numberText(0), "9223372036854775807");
        x.setEnd(0, 2);
        CHECK.due("numberText() of -2^31", x.numberText(0), "-2147483648");
        x.move(0, -1);
        CHECK.due("numberText() of 1 less", x.numberText(0), "-2147483649");
        x.setEnd(0, 3);
        x.move(0, 1);
        CHECK.due("numberText() of 2^31", x.numberText(0), "2147483648");
    }

    private static void ordered(long less, long more) {
        Rangecard x = new Rangecard();
        Wide.put(x, 0, less);
        Wide.put(x, 7, more);
        CHECK.due("order() of " + less + " and " + more, x.order(0, 7), -1);
        CHECK.due("order() of " + more + " and " + less, x.order(7, 0), 1);
        CHECK.due("order() of " + less + " and itself", x.order(0, 0), 0);
        x.copy(1, 7);
        CHECK.due("order() of " + more + " and another such", x.order(7, 1), 0);
    }

    private static void orderOfNeighbours() {
        for (long t : Wide.turns()) {
            ordered(t, t + 1);
        }
    }

    /** As far apart as these their difference wraps around, or their LOW stand the other way. */
    private static void orderOfFarOnes() {
        ordered(Wide.LEAST, Wide.GREATEST);
        ordered(Wide.LEAST, 1);
        ordered(-2, Wide.GREATEST);
        ordered(Wide.SMALL_LEAST, Wide.SMALL_GREATEST);
        ordered(5, 4294967296L);
        ordered(-4294967295L, -3);
        ordered(7, 4294967303L);
    }

    private static void onlyTheNumberThatIsNamedChanges() {
        for (int number = 0; number < 8; number++) {
            Rangecard x = new Rangecard();
            x.set(number, 1, 2);
            x.setSmall(number, 3);
            x.setEnd(number, 3);
            x.move(number, 4);
            for (int other = 0; other < 8; other++) {
                CHECK.due("the NUMBER " + other, x.numberText(other), other == number ? "2147483651" : "0");
            }
        }
    }
}
