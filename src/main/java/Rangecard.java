/**
 * Six cards, each with a range or without one, eight numbers of 64 bits to make ranges of,
 * and a pile of at most twelve ranges, in which they are sought.
 */
public final class Rangecard {
    private static final int NONE = -1;
    private static final int REFUSED = -9;

    private static final int NUMBERS = 8;
    private static final int CARDS = 6;
    private static final int ENDS = 4;
    private static final int PLACES = 12;

    private static final int LEAST = 0;
    private static final int LEAST_AT_MOST = 1;
    private static final int GREATEST_AT_LEAST = 2;
    private static final int GREATEST = 3;

    private static final int MOST_COUNTED = 60;
    private static final int MOST_DIGITS = 19;
    private static final int LOW_BITS = 32;
    private static final long LOW_MASK = 0xFFFFFFFFL;

    private static final long SMALL_LEAST = -2147483648L;
    private static final long SMALL_GREATEST = 2147483647L;
    private static final long WIDE_LEAST = -9223372036854775808L;
    private static final long WIDE_GREATEST = 9223372036854775807L;

    private static final long DIGEST_START = 7783L;
    private static final long DIGEST_FACTOR = 31L;

    /** A range never changes once it is made, so cards and places of the pile may hold the same one. */
    private static final class Range {
        private final long least;
        private final long leastAtMost;
        private final long greatestAtLeast;
        private final long greatest;

        private Range(long least, long leastAtMost, long greatestAtLeast, long greatest) {
            this.least = least;
            this.leastAtMost = leastAtMost;
            this.greatestAtLeast = greatestAtLeast;
            this.greatest = greatest;
        }

        /** Null stands for a range that is refused. */
        private static Range ofFour(long a, long b, long c, long d) {
            return isInOrder(a, b, c, d) ? new Range(a, b, c, d) : null;
        }

        private static Range ofThree(long a, long b, long c) {
            return ofFour(a, a, b, c);
        }

        private static Range ofTwo(long a, long b) {
            return ofFour(a, a, b, b);
        }

        private static boolean isInOrder(long a, long b, long c, long d) {
            return a <= b && c <= d && a <= c && b <= d;
        }

        private long endAt(int what) {
            switch (what) {
                case LEAST:
                    return least;
                case LEAST_AT_MOST:
                    return leastAtMost;
                case GREATEST_AT_LEAST:
                    return greatestAtLeast;
                default:
                    return greatest;
            }
        }

        private boolean holds(long value) {
            return least <= value && value <= greatest;
        }

        private boolean holdsAsSmall(long value) {
            return fitsSmall() && holds(value);
        }

        private boolean holdsAs(long value, boolean asSmall) {
            return asSmall ? holdsAsSmall(value) : holds(value);
        }

        private boolean isSettled() {
            return least == leastAtMost && greatestAtLeast == greatest;
        }

        private boolean fitsSmall() {
            return least >= SMALL_LEAST && greatest <= SMALL_GREATEST;
        }

        private boolean matches(Range other) {
            return other != null
                && least == other.least
                && leastAtMost == other.leastAtMost
                && greatestAtLeast == other.greatestAtLeast
                && greatest == other.greatest;
        }

        private long hash() {
            long mixed = least;
            mixed = mixed * 31 + leastAtMost;
            mixed = mixed * 31 + greatestAtLeast;
            return mixed * 31 + greatest;
        }
    }

    private final long[] numbers;
    private final Range[] cards;
    /** The places below laidCount hold ranges, those from there on null. */
    private final Range[] laid;
    private int laidCount;
    private int refusals;
    private int knocks;
    private int made;

    public Rangecard() {
        numbers = new long[NUMBERS];
        cards = new Range[CARDS];
        laid = new Range[PLACES];
        laidCount = 0;
        refusals = 0;
        knocks = 0;
        made = 0;
    }

    // ---- numbers

    public int set(int number, int high, int low) throws IndexOutOfBoundsException {
        needNumber(number);
        int before = highOf(numbers[number]);
        numbers[number] = ((long) high << LOW_BITS) | (low & LOW_MASK);
        return before;
    }

    public int setSmall(int number, int value) throws IndexOutOfBoundsException {
        needNumber(number);
        int before = lowOf(numbers[number]);
        numbers[number] = value;
        return before;
    }

    public int setEnd(int number, int what) throws IndexOutOfBoundsException, IllegalArgumentException {
        needNumber(number);
        needChoice(what, 3);
        return putNumber(number, farNumber(what));
    }

    public int move(int number, int by) throws IndexOutOfBoundsException {
        needNumber(number);
        return putNumber(number, numbers[number] + by);
    }

    public int copy(int number, int other) throws IndexOutOfBoundsException {
        needNumber(number);
        needNumber(other);
        return putNumber(number, numbers[other]);
    }

    public int ofNumber(int number, boolean isHigh) throws IndexOutOfBoundsException {
        needNumber(number);
        return halfOf(numbers[number], isHigh);
    }

    public String numberText(int number) throws IndexOutOfBoundsException {
        needNumber(number);
        StringBuilder backwards = new StringBuilder();
        appendBackwards(backwards, numbers[number]);
        return backwards.reverse().toString();
    }

    public int order(int number, int other) throws IndexOutOfBoundsException {
        needNumber(number);
        needNumber(other);
        if (numbers[number] < numbers[other]) {
            return -1;
        }
        return numbers[number] > numbers[other] ? 1 : 0;
    }

    // ---- made

    public int two(int card, int a, int b) throws IndexOutOfBoundsException {
        needCard(card);
        needNumber(a);
        needNumber(b);
        return give(card, Range.ofTwo(numbers[a], numbers[b]));
    }

    public int three(int card, int a, int b, int c) throws IndexOutOfBoundsException {
        needCard(card);
        needNumber(a);
        needNumber(b);
        needNumber(c);
        return give(card, Range.ofThree(numbers[a], numbers[b], numbers[c]));
    }

    public int four(int card, int a, int b, int c, int d) throws IndexOutOfBoundsException {
        needCard(card);
        needNumber(a);
        needNumber(b);
        needNumber(c);
        needNumber(d);
        return give(card, Range.ofFour(numbers[a], numbers[b], numbers[c], numbers[d]));
    }

    public int twoSmall(int card, int a, int b) throws IndexOutOfBoundsException {
        needCard(card);
        return give(card, Range.ofTwo(a, b));
    }

    public int threeSmall(int card, int a, int b, int c) throws IndexOutOfBoundsException {
        needCard(card);
        return give(card, Range.ofThree(a, b, c));
    }

    public int fourSmall(int card, int a, int b, int c, int d) throws IndexOutOfBoundsException {
        needCard(card);
        return give(card, Range.ofFour(a, b, c, d));
    }

    public int again(int card, int other) throws IndexOutOfBoundsException, IllegalStateException {
        needCard(card);
        Range model = rangeOf(other);
        give(card, copyOf(model));
        return smallEnds(model);
    }

    public int same(int card, int other) throws IndexOutOfBoundsException, IllegalStateException {
        needCard(card);
        Range model = rangeOf(other);
        Range before = cards[card];
        cards[card] = model;
        if (before == null) {
            return NONE;
        }
        return before.matches(model) ? 1 : 0;
    }

    public int outer(int card, int other) throws IndexOutOfBoundsException, IllegalStateException {
        needCard(card);
        Range model = rangeOf(other);
        Range outer = outerOf(model);
        give(card, outer);
        return model.matches(outer) ? 1 : 0;
    }

    public int inner(int card, int other) throws IndexOutOfBoundsException, IllegalStateException {
        needCard(card);
        Range model = rangeOf(other);
        return give(card, Range.ofTwo(model.leastAtMost, model.greatestAtLeast));
    }

    public int span(int card, int one, int other) throws IndexOutOfBoundsException, IllegalStateException {
        needCard(card);
        needCard(one);
        needCard(other);
        Range low = rangeOf(one);
        Range high = rangeOf(other);
        return give(card, Range.ofFour(low.least, low.leastAtMost, high.greatestAtLeast, high.greatest));
    }

    public int shift(int card, int by) throws IndexOutOfBoundsException, IllegalStateException {
        Range own = rangeOf(card);
        return give(card, Range.ofFour(own.least + by, own.leastAtMost + by,
            own.greatestAtLeast + by, own.greatest + by));
    }

    public int drop(int card) throws IndexOutOfBoundsException {
        needCard(card);
        int had = asNumber(cards[card] != null);
        cards[card] = null;
        return had;
    }

    // ---- asked

    public boolean isThere(int card) throws IndexOutOfBoundsException {
        needCard(card);
        return cards[card] != null;
    }

    public boolean isFixed(int card) throws IndexOutOfBoundsException, IllegalStateException {
        return rangeOf(card).isSettled();
    }

    public boolean isSmall(int card) throws IndexOutOfBoundsException, IllegalStateException {
        return rangeOf(card).fitsSmall();
    }

    public int end(int card, int what, boolean isHigh)
            throws IndexOutOfBoundsException, IllegalArgumentException, IllegalStateException {
        needCard(card);
        needChoice(what, ENDS - 1);
        return halfOf(rangeOf(card).endAt(what), isHigh);
    }

    public int take(int card, int what, int number)
            throws IndexOutOfBoundsException, IllegalArgumentException, IllegalStateException {
        needCard(card);
        needNumber(number);
        needChoice(what, ENDS - 1);
        return putNumber(number, rangeOf(card).endAt(what));
    }

    public String cardText(int card) throws IndexOutOfBoundsException {
        needCard(card);
        Range range = cards[card];
        if (range == null) {
            return "-";
        }
        StringBuilder backwards = new StringBuilder();
        for (int what = ENDS - 1; what >= 0; what--) {
            appendBackwards(backwards, range.endAt(what));
            if (what > 0) {
                backwards.append(' ');
            }
        }
        return backwards.reverse().toString();
    }

    public boolean isValid(int card, int number) throws IndexOutOfBoundsException, IllegalStateException {
        needCard(card);
        needNumber(number);
        return rangeOf(card).holds(numbers[number]);
    }

    public boolean isValidSmall(int card, int number) throws IndexOutOfBoundsException, IllegalStateException {
        needCard(card);
        needNumber(number);
        return rangeOf(card).holdsAsSmall(numbers[number]);
    }

    public int whichValid(int card, int value) throws IndexOutOfBoundsException, IllegalStateException {
        return validityIn(rangeOf(card), value);
    }

    public int around(int card, int what, boolean isAsSmall)
            throws IndexOutOfBoundsException, IllegalArgumentException, IllegalStateException {
        needCard(card);
        needChoice(what, ENDS - 1);
        Range range = rangeOf(card);
        return neighboursIn(range, range.endAt(what), isAsSmall);
    }

    public int count(int card, int from, int many)
            throws IndexOutOfBoundsException, IllegalArgumentException, IllegalStateException {
        needCard(card);
        if (many < 1 || many > MOST_COUNTED) {
            throw new IllegalArgumentException("many is not 1 to 60");
        }
        Range range = rangeOf(card);
        int found = 0;
        for (int more = 0; more < many; more++) {
            found += asNumber(range.holds((long) from + more));
        }
        return found;
    }

    public int who(int number, int what) throws IndexOutOfBoundsException, IllegalArgumentException {
        needNumber(number);
        needChoice(what, 1);
        return holdersOf(numbers[number], what == 1);
    }

    public int which(int what) throws IllegalArgumentException {
        needChoice(what, 2);
        return cardsThatAre(what);
    }

    public boolean areSame(int card, int other) throws IndexOutOfBoundsException, IllegalStateException {
        needCard(card);
        needCard(other);
        return rangeOf(card).matches(rangeOf(other));
    }

    public boolean isSameAs(int card, int what)
            throws IndexOutOfBoundsException, IllegalArgumentException, IllegalStateException {
        needCard(card);
        needChoice(what, 4);
        Range range = rangeOf(card);
        switch (what) {
            case 2:
                return range.matches(copyOf(range));
            case 3:
                return range.matches(range);
            case 4:
                return range.matches(outerOf(range));
            default:
                return false;
        }
    }

    public int likes(int card) throws IndexOutOfBoundsException, IllegalStateException {
        return cardsLike(rangeOf(card));
    }

    // ---- the pile

    public int lay(int card) throws IndexOutOfBoundsException, IllegalStateException {
        Range range = rangeOf(card);
        if (laidCount < 0 || laidCount >= laid.length) {
            return refuse();
        }
        laid[laidCount] = range;
        laidCount++;
        return laidCount;
    }

    public int seek(int card, boolean isLast) throws IndexOutOfBoundsException, IllegalStateException {
        Range range = rangeOf(card);
        return isLast ? lastPlaceOf(range) : firstPlaceOf(range);
    }

    public int howOften(int card) throws IndexOutOfBoundsException, IllegalStateException {
        return timesLaid(rangeOf(card));
    }

    public int lift(int card) throws IndexOutOfBoundsException, IllegalStateException {
        int place = firstPlaceOf(rangeOf(card));
        if (place == NONE) {
            return 0;
        }
        closeGap(place);
        return 1;
    }

    public int pick(int place, int card) throws IndexOutOfBoundsException {
        needPlace(place);
        needCard(card);
        int had = asNumber(cards[card] != null);
        cards[card] = laid[place];
        return had;
    }

    public int turn() {
        for (int place = 0; place < laidCount / 2; place++) {
            int across = laidCount - 1 - place;
            Range moved = laid[place];
            laid[place] = laid[across];
            laid[across] = moved;
        }
        return laidCount;
    }

    public int sweep() {
        int before = laidCount;
        for (int place = 0; place < laid.length; place++) {
            laid[place] = null;
        }
        laidCount = 0;
        return before;
    }

    public int pile(int number, int what) throws IndexOutOfBoundsException, IllegalArgumentException {
        needNumber(number);
        needChoice(what, 5);
        return pileCount(numbers[number], what);
    }

    // ---- the house

    public int house(int what) throws IllegalArgumentException {
        needChoice(what, 4);
        return houseCount(what);
    }

    public int knock() {
        knocks++;
        return knocks;
    }

    public boolean isSound() {
        for (int card = 0; card < CARDS; card++) {
            Range range = cards[card];
            if (range != null && !(isSoundAlone(range) && isSameToAndFro(range))) {
                return false;
            }
        }
        return isEachFoundInPile();
    }

    public long digest() {
        long d = withHouse(DIGEST_START);
        for (int number = 0; number < NUMBERS; number++) {
            d = withNumber(d, numbers[number]);
        }
        for (int card = 0; card < CARDS; card++) {
            d = withCard(d, cards[card]);
        }
        d = withWhichAndPile(d);
        return with(d, asNumber(isSound()));
    }

    // ---- what is refused, and what is thrown

    private static void needNumber(int number) {
        if (number < 0 || number >= NUMBERS) {
            throw new IndexOutOfBoundsException("no such number");
        }
    }

    private static void needCard(int card) {
        if (card < 0 || card >= CARDS) {
            throw new IndexOutOfBoundsException("no such card");
        }
    }

    private void needPlace(int place) {
        if (place < 0 || place >= laidCount) {
            throw new IndexOutOfBoundsException("no such place");
        }
    }

    private static void needChoice(int what, int most) {
        if (what < 0 || what > most) {
            throw new IllegalArgumentException("no such what");
        }
    }

    private Range rangeOf(int card) {
        needCard(card);
        Range range = cards[card];
        if (range == null) {
            throw new IllegalStateException("the card has no range");
        }
        return range;
    }

    private int refuse() {
        refusals++;
        return REFUSED;
    }

    /** Takes a card that is there, and null for a range that is refused. */
    private int give(int card, Range range) {
        if (range == null) {
            return refuse();
        }
        cards[card] = range;
        made++;
        return 1;
    }

    // ---- numbers and texts

    private static int highOf(long value) {
        return (int) (value >> LOW_BITS);
    }

    private static int lowOf(long value) {
        return (int) value;
    }

    private static int halfOf(long value, boolean isHigh) {
        return isHigh ? highOf(value) : lowOf(value);
    }

    private static boolean isSmallNumber(long value) {
        return value >= SMALL_LEAST && value <= SMALL_GREATEST;
    }

    private static int asNumber(boolean isSo) {
        return isSo ? 1 : 0;
    }

    private static long farNumber(int what) {
        switch (what) {
            case 0:
                return WIDE_LEAST;
            case 1:
                return WIDE_GREATEST;
            case 2:
                return SMALL_LEAST;
            default:
                return SMALL_GREATEST;
        }
    }

    /** Takes a number that is there. */
    private int putNumber(int number, long value) {
        numbers[number] = value;
        return lowOf(value);
    }

    /** Each digit is taken with the number's own sign, as -2^63 has no counterpart above 0 to take them from. */
    private static void appendBackwards(StringBuilder backwards, long value) {
        long rest = value;
        for (int digits = 0; digits < MOST_DIGITS; digits++) {
            backwards.append(Math.abs((int) (rest % 10)));
            rest /= 10;
            if (rest == 0) {
                break;
            }
        }
        if (value < 0) {
            backwards.append('-');
        }
    }

    // ---- ranges

    private static Range copyOf(Range range) {
        return Range.ofFour(range.least, range.leastAtMost, range.greatestAtLeast, range.greatest);
    }

    private static Range outerOf(Range range) {
        return Range.ofTwo(range.least, range.greatest);
    }

    private static int smallEnds(Range range) {
        int small = 0;
        for (int what = 0; what < ENDS; what++) {
            small += asNumber(isSmallNumber(range.endAt(what)));
        }
        return small;
    }

    private static int validityIn(Range range, long value) {
        return asNumber(range.holds(value)) + asNumber(range.holdsAsSmall(value));
    }

    private static int neighboursIn(Range range, long value, boolean asSmall) {
        return asNumber(range.holdsAs(value - 1, asSmall))
            + 2 * asNumber(range.holdsAs(value, asSmall))
            + 4 * asNumber(range.holdsAs(value + 1, asSmall));
    }

    // ---- cards

    private int holdersOf(long value, boolean asSmall) {
        int sum = 0;
        for (int card = 0; card < CARDS; card++) {
            Range range = cards[card];
            if (range != null && range.holdsAs(value, asSmall)) {
                sum += 1 << card;
            }
        }
        return sum;
    }

    private int cardsThatAre(int what) {
        int sum = 0;
        for (int card = 0; card < CARDS; card++) {
            Range range = cards[card];
            if (range != null && isSo(range, what)) {
                sum += 1 << card;
            }
        }
        return sum;
    }

    private static boolean isSo(Range range, int what) {
        switch (what) {
            case 1:
                return range.isSettled();
            case 2:
                return range.fitsSmall();
            default:
                return true;
        }
    }

    private int cardsLike(Range range) {
        int sum = 0;
        for (int card = 0; card < CARDS; card++) {
            Range other = cards[card];
            if (other != null && range.matches(other) && range.hash() == other.hash()) {
                sum += 1 << card;
            }
        }
        return sum;
    }

    private int cardsWithRange() {
        int there = 0;
        for (int card = 0; card < CARDS; card++) {
            there += asNumber(cards[card] != null);
        }
        return there;
    }

    // ---- the pile's places

    private int firstPlaceOf(Range range) {
        for (int place = 0; place < laidCount; place++) {
            if (range.matches(laid[place])) {
                return place;
            }
        }
        return NONE;
    }

    private int lastPlaceOf(Range range) {
        for (int place = laidCount - 1; place >= 0; place--) {
            if (range.matches(laid[place])) {
                return place;
            }
        }
        return NONE;
    }

    private int timesLaid(Range range) {
        int times = 0;
        for (int place = 0; place < laidCount; place++) {
            times += asNumber(range.matches(laid[place]));
        }
        return times;
    }

    /** Takes a place that is there. */
    private void closeGap(int place) {
        for (int next = place + 1; next < laidCount; next++) {
            laid[next - 1] = laid[next];
        }
        laidCount--;
        laid[laidCount] = null;
    }

    private int pileCount(long value, int what) {
        int sum = 0;
        for (int place = 0; place < laidCount; place++) {
            Range range = laid[place];
            if (range != null) {
                sum += asNumber(isCounted(range, place, value, what));
            }
        }
        return sum;
    }

    private boolean isCounted(Range range, int place, long value, int what) {
        switch (what) {
            case 1:
                return range.holds(value);
            case 2:
                return range.holdsAsSmall(value);
            case 3:
                return range.isSettled();
            case 4:
                return range.fitsSmall();
            case 5:
                return firstPlaceOf(range) < place;
            default:
                return true;
        }
    }

    // ---- the house's counts

    private int houseCount(int what) {
        switch (what) {
            case 0:
                return cardsWithRange();
            case 1:
                return laidCount;
            case 2:
                return refusals;
            case 3:
                return knocks;
            default:
                return made;
        }
    }

    // ---- soundness

    private boolean isSoundAlone(Range range) {
        return isLikeItsCopy(range)
            && range.isSettled() == range.matches(outerOf(range))
            && isOuterSound(range)
            && isEachEndHeld(range)
            && isDrawnSound(range);
    }

    private static boolean isLikeItsCopy(Range range) {
        Range copy = copyOf(range);
        return copy != null && copy.matches(range) && range.matches(copy) && copy.hash() == range.hash();
    }

    /** Beyond -2^63 and 2^63 - 1 a number wraps around, so nothing is asked of it there. */
    private static boolean isOuterSound(Range range) {
        return (range.least == WIDE_LEAST || !range.holds(range.least - 1))
            && (range.greatest == WIDE_GREATEST || !range.holds(range.greatest + 1));
    }

    private static boolean isEachEndHeld(Range range) {
        for (int what = 0; what < ENDS; what++) {
            long end = range.endAt(what);
            if (!range.holds(end) || range.holdsAsSmall(end) != range.fitsSmall()) {
                return false;
            }
        }
        return true;
    }

    private boolean isDrawnSound(Range range) {
        Range low = Range.ofFour(range.least, range.least, range.greatestAtLeast, range.greatest);
        Range high = Range.ofFour(range.least, range.leastAtMost, range.greatest, range.greatest);
        return hasSameValid(low, range) && hasSameValid(high, range);
    }

    private boolean hasSameValid(Range drawn, Range range) {
        if (drawn == null) {
            return false;
        }
        for (int number = 0; number < NUMBERS; number++) {
            if (drawn.holds(numbers[number]) != range.holds(numbers[number])) {
                return false;
            }
        }
        return true;
    }

    private boolean isSameToAndFro(Range range) {
        for (int card = 0; card < CARDS; card++) {
            Range other = cards[card];
            if (other != null && range.matches(other) != other.matches(range)) {
                return false;
            }
        }
        return true;
    }

    private boolean isEachFoundInPile() {
        for (int place = 0; place < laidCount; place++) {
            Range range = laid[place];
            if (range == null || firstPlaceOf(range) == NONE) {
                return false;
            }
        }
        return true;
    }

    // ---- the checksum

    private static long with(long d, long v) {
        return d * DIGEST_FACTOR + v;
    }

    private long withHouse(long start) {
        long d = start;
        for (int what = 0; what <= 4; what++) {
            d = with(d, houseCount(what));
        }
        return d;
    }

    private long withNumber(long start, long value) {
        long d = with(start, highOf(value));
        d = with(d, lowOf(value));
        d = with(d, holdersOf(value, false));
        return with(d, holdersOf(value, true));
    }

    private long withCard(long start, Range range) {
        if (range == null) {
            return with(start, 0);
        }
        long d = withEnds(with(start, 1), range);
        d = with(d, asNumber(range.isSettled()));
        d = with(d, asNumber(range.fitsSmall()));
        d = with(d, cardsLike(range));
        d = with(d, firstPlaceOf(range));
        d = with(d, lastPlaceOf(range));
        d = with(d, timesLaid(range));
        for (int value = -1; value <= 1; value++) {
            d = with(d, validityIn(range, value));
        }
        return d;
    }

    private static long withEnds(long start, Range range) {
        long d = start;
        for (int what = 0; what < ENDS; what++) {
            long end = range.endAt(what);
            d = with(d, highOf(end));
            d = with(d, lowOf(end));
            d = with(d, neighboursIn(range, end, false));
            d = with(d, neighboursIn(range, end, true));
        }
        return d;
    }

    private long withWhichAndPile(long start) {
        long d = start;
        for (int what = 0; what <= 2; what++) {
            d = with(d, cardsThatAre(what));
        }
        for (int what = 0; what <= 5; what++) {
            d = with(d, pileCount(numbers[0], what));
        }
        return d;
    }
}
