/** Puts numbers of 64 bits into objects, and holds those at which something turns. */
final class Wide {
    static final long LEAST = Long.MIN_VALUE;
    static final long GREATEST = Long.MAX_VALUE;
    static final long SMALL_LEAST = Integer.MIN_VALUE;
    static final long SMALL_GREATEST = Integer.MAX_VALUE;

    /** Each of these has one above it, and at most of them HIGH, LOW or the count of digits turns. */
    private static final long[] TURNS = {LEAST, -4294967297L, -4294967296L, SMALL_LEAST - 1, SMALL_LEAST, -10, -1, 0, 9,
        SMALL_GREATEST - 1, SMALL_GREATEST, SMALL_GREATEST + 1, 4294967295L, 4294967296L, GREATEST - 1};

    private Wide() {
    }

    static long[] turns() {
        return TURNS.clone();
    }

    static boolean isSmall(long value) {
        return (int) value == value;
    }

    static void put(Rangecard x, int number, long value) {
        x.set(number, (int) (value >> 32), (int) value);
    }

    /** NUMBERS 6 and 7 are used for it. */
    static int two(Rangecard x, int card, long a, long b) {
        put(x, 6, a);
        put(x, 7, b);
        return x.two(card, 6, 7);
    }

    /** NUMBERS 5 to 7 are used for it. */
    static int three(Rangecard x, int card, long a, long b, long c) {
        put(x, 5, a);
        put(x, 6, b);
        put(x, 7, c);
        return x.three(card, 5, 6, 7);
    }

    /** NUMBERS 4 to 7 are used for it. */
    static int four(Rangecard x, int card, long a, long b, long c, long d) {
        put(x, 4, a);
        put(x, 5, b);
        put(x, 6, c);
        put(x, 7, d);
        return x.four(card, 4, 5, 6, 7);
    }

    static String text(long a, long b, long c, long d) {
        return a + " " + b + " " + c + " " + d;
    }
}
