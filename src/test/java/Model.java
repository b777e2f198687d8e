import java.math.BigInteger;
import java.util.ArrayList;
import java.util.Collections;
import java.util.List;

/** The document's words a second time, with BigInteger and lists, for ModelRunsTest to compare with. */
public final class Model {
    private static final BigInteger TWO_32 = BigInteger.ONE.shiftLeft(32);
    private static final BigInteger TWO_64 = BigInteger.ONE.shiftLeft(64);
    private static final BigInteger TOP_64 = BigInteger.ONE.shiftLeft(63);
    private static final BigInteger TOP_32 = BigInteger.ONE.shiftLeft(31);

    private final List<BigInteger> numbers = new ArrayList<>(Collections.nCopies(8, BigInteger.ZERO));
    private final List<List<BigInteger>> cards = new ArrayList<>(Collections.nCopies(6, null));
    private final List<List<BigInteger>> laid = new ArrayList<>();
    private int refusals;
    private int knocks;
    private int made;

    private static BigInteger big(long value) {
        return BigInteger.valueOf(value);
    }

    private static BigInteger wrapped(BigInteger value) {
        BigInteger rest = value.mod(TWO_64);
        return rest.compareTo(TOP_64) >= 0 ? rest.subtract(TWO_64) : rest;
    }

    private static int high(BigInteger value) {
        return value.subtract(value.mod(TWO_32)).divide(TWO_32).intValueExact();
    }

    private static int low(BigInteger value) {
        BigInteger rest = value.mod(TWO_32);
        return (rest.compareTo(TOP_32) >= 0 ? rest.subtract(TWO_32) : rest).intValueExact();
    }

    private static void index(int... indicesAndBounds) {
        for (int i = 0; i < indicesAndBounds.length; i += 2) {
            if (indicesAndBounds[i] < 0 || indicesAndBounds[i] >= indicesAndBounds[i + 1]) {
                throw new IndexOutOfBoundsException();
            }
        }
    }

    private static void argument(boolean isGood) {
        if (!isGood) {
            throw new IllegalArgumentException();
        }
    }

    private void state(int... asked) {
        for (int card : asked) {
            if (cards.get(card) == null) {
                throw new IllegalStateException();
            }
        }
    }

    private int put(int number, BigInteger value) {
        numbers.set(number, wrapped(value));
        return low(numbers.get(number));
    }

    private int make(int card, BigInteger... ends) {
        if (ends[0].compareTo(ends[1]) > 0 || ends[2].compareTo(ends[3]) > 0
                || ends[0].compareTo(ends[2]) > 0 || ends[1].compareTo(ends[3]) > 0) {
            refusals++;
            return -9;
        }
        made++;
        cards.set(card, List.of(ends));
        return 1;
    }

    private static boolean valid(List<BigInteger> range, BigInteger value, boolean asSmall) {
        return range != null && value.max(range.get(0)).min(range.get(3)).equals(value) && (!asSmall || small(range));
    }

    private static boolean small(List<BigInteger> range) {
        return range != null && range.get(0).negate().compareTo(TOP_32) <= 0 && range.get(3).compareTo(TOP_32) < 0;
    }

    private static boolean fixed(List<BigInteger> range) {
        return range != null && range.get(0).equals(range.get(1)) && range.get(2).equals(range.get(3));
    }

    public int set(int number, int high, int low) {
        index(number, 8);
        int before = high(numbers.get(number));
        BigInteger rest = low < 0 ? big(low).add(TWO_32) : big(low);
        put(number, big(high).multiply(TWO_32).add(rest));
        return before;
    }

    public int setSmall(int number, int value) {
        index(number, 8);
        int before = low(numbers.get(number));
        put(number, big(value));
        return before;
    }

    public int setEnd(int number, int what) {
        index(number, 8);
        argument(what >= 0 && what <= 3);
        BigInteger top = what < 2 ? TOP_64 : TOP_32;
        return put(number, what % 2 == 0 ? top.negate() : top.subtract(BigInteger.ONE));
    }

    public int move(int number, int by) {
        index(number, 8);
        return put(number, numbers.get(number).add(big(by)));
    }

    public int copy(int number, int other) {
        index(number, 8, other, 8);
        return put(number, numbers.get(other));
    }

    public int ofNumber(int number, boolean isHigh) {
        index(number, 8);
        return isHigh ? high(numbers.get(number)) : low(numbers.get(number));
    }

    public String numberText(int number) {
        index(number, 8);
        return numbers.get(number).toString();
    }

    public int order(int number, int other) {
        index(number, 8, other, 8);
        return numbers.get(number).subtract(numbers.get(other)).signum();
    }

    public int two(int card, int a, int b) {
        index(card, 6, a, 8, b, 8);
        return make(card, numbers.get(a), numbers.get(a), numbers.get(b), numbers.get(b));
    }

    public int three(int card, int a, int b, int c) {
        index(card, 6, a, 8, b, 8, c, 8);
        return make(card, numbers.get(a), numbers.get(a), numbers.get(b), numbers.get(c));
    }

    public int four(int card, int a, int b, int c, int d) {
        index(card, 6, a, 8, b, 8, c, 8, d, 8);
        return make(card, numbers.get(a), numbers.get(b), numbers.get(c), numbers.get(d));
    }

    public int twoSmall(int card, int a, int b) {
        index(card, 6);
        return make(card, big(a), big(a), big(b), big(b));
    }

    public int threeSmall(int card, int a, int b, int c) {
        index(card, 6);
        return make(card, big(a), big(a), big(b), big(c));
    }

    public int fourSmall(int card, int a, int b, int c, int d) {
        index(card, 6);
        return make(card, big(a), big(b), big(c), big(d));
    }

    public int again(int card, int other) {
        index(card, 6, other, 6);
        state(other);
        make(card, cards.get(other).toArray(new BigInteger[0]));
        int sum = 0;
        for (BigInteger end : cards.get(card)) {
            sum += end.bitLength() < 32 ? 1 : 0;
        }
        return sum;
    }

    public int same(int card, int other) {
        index(card, 6, other, 6);
        state(other);
        List<BigInteger> before = cards.set(card, cards.get(other));
        return before == null ? -1 : before.equals(cards.get(card)) ? 1 : 0;
    }

    public int outer(int card, int other) {
        index(card, 6, other, 6);
        state(other);
        List<BigInteger> was = cards.get(other);
        make(card, was.get(0), was.get(0), was.get(3), was.get(3));
        return was.equals(cards.get(card)) ? 1 : 0;
    }

    public int inner(int card, int other) {
        index(card, 6, other, 6);
        state(other);
        List<BigInteger> was = cards.get(other);
        return make(card, was.get(1), was.get(1), was.get(2), was.get(2));
    }

    public int span(int card, int one, int other) {
        index(card, 6, one, 6, other, 6);
        state(one, other);
        List<BigInteger> first = cards.get(one);
        List<BigInteger> second = cards.get(other);
        return make(card, first.get(0), first.get(1), second.get(2), second.get(3));
    }

    public int shift(int card, int by) {
        index(card, 6);
        state(card);
        BigInteger[] ends = new BigInteger[4];
        for (int what = 0; what < 4; what++) {
            ends[what] = wrapped(cards.get(card).get(what).add(big(by)));
        }
        return make(card, ends);
    }

    public int drop(int card) {
        index(card, 6);
        return cards.set(card, null) == null ? 0 : 1;
    }

    public boolean isThere(int card) {
        index(card, 6);
        return cards.get(card) != null;
    }

    public boolean isFixed(int card) {
        index(card, 6);
        state(card);
        return fixed(cards.get(card));
    }

    public boolean isSmall(int card) {
        index(card, 6);
        state(card);
        return small(cards.get(card));
    }

    public int end(int card, int what, boolean isHigh) {
        index(card, 6);
        argument(what >= 0 && what <= 3);
        state(card);
        BigInteger end = cards.get(card).get(what);
        return isHigh ? high(end) : low(end);
    }

    public int take(int card, int what, int number) {
        index(card, 6, number, 8);
        argument(what >= 0 && what <= 3);
        state(card);
        return put(number, cards.get(card).get(what));
    }

    public String cardText(int card) {
        index(card, 6);
        if (cards.get(card) == null) {
            return "-";
        }
        List<String> texts = new ArrayList<>();
        for (BigInteger end : cards.get(card)) {
            texts.add(end.toString());
        }
        return String.join(" ", texts);
    }

    public boolean isValid(int card, int number) {
        index(card, 6, number, 8);
        state(card);
        return valid(cards.get(card), numbers.get(number), false);
    }

    public boolean isValidSmall(int card, int number) {
        index(card, 6, number, 8);
        state(card);
        return valid(cards.get(card), numbers.get(number), true);
    }

    public int whichValid(int card, int value) {
        index(card, 6);
        state(card);
        return !valid(cards.get(card), big(value), false) ? 0 : valid(cards.get(card), big(value), true) ? 2 : 1;
    }

    public int around(int card, int what, boolean isAsSmall) {
        index(card, 6);
        argument(what >= 0 && what <= 3);
        state(card);
        int sum = 0;
        for (int i = 0; i < 3; i++) {
            BigInteger value = wrapped(cards.get(card).get(what).add(big(i - 1)));
            sum |= valid(cards.get(card), value, isAsSmall) ? 1 << i : 0;
        }
        return sum;
    }

    public int count(int card, int from, int many) {
        index(card, 6);
        argument(many >= 1 && many <= 60);
        state(card);
        BigInteger first = big(from).max(cards.get(card).get(0));
        BigInteger last = big(from).add(big(many - 1)).min(cards.get(card).get(3));
        return last.subtract(first).add(BigInteger.ONE).max(BigInteger.ZERO).intValueExact();
    }

    public int who(int number, int what) {
        index(number, 8);
        argument(what == 0 || what == 1);
        int sum = 0;
        for (int card = 0; card < 6; card++) {
            sum |= valid(cards.get(card), numbers.get(number), what == 1) ? 1 << card : 0;
        }
        return sum;
    }

    public int which(int what) {
        argument(what >= 0 && what <= 2);
        int sum = 0;
        for (int card = 0; card < 6; card++) {
            List<BigInteger> range = cards.get(card);
            boolean is = what == 0 ? range != null : what == 1 ? fixed(range) : small(range);
            sum |= is ? 1 << card : 0;
        }
        return sum;
    }

    public boolean areSame(int card, int other) {
        index(card, 6, other, 6);
        state(card, other);
        return cards.get(card).equals(cards.get(other));
    }

    public boolean isSameAs(int card, int what) {
        index(card, 6);
        argument(what >= 0 && what <= 4);
        state(card);
        return what == 2 || what == 3 || what == 4 && fixed(cards.get(card));
    }

    public int likes(int card) {
        index(card, 6);
        state(card);
        int sum = 0;
        for (int other = 0; other < 6; other++) {
            sum |= cards.get(card).equals(cards.get(other)) ? 1 << other : 0;
        }
        return sum;
    }

    public int lay(int card) {
        index(card, 6);
        state(card);
        if (laid.size() == 12) {
            refusals++;
            return -9;
        }
        laid.add(cards.get(card));
        return laid.size();
    }

    public int seek(int card, boolean isLast) {
        index(card, 6);
        state(card);
        return isLast ? laid.lastIndexOf(cards.get(card)) : laid.indexOf(cards.get(card));
    }

    public int howOften(int card) {
        index(card, 6);
        state(card);
        return Collections.frequency(laid, cards.get(card));
    }

    public int lift(int card) {
        index(card, 6);
        state(card);
        return laid.remove(cards.get(card)) ? 1 : 0;
    }

    public int pick(int place, int card) {
        index(place, laid.size(), card, 6);
        return cards.set(card, laid.get(place)) == null ? 0 : 1;
    }

    public int turn() {
        Collections.reverse(laid);
        return laid.size();
    }

    public int sweep() {
        int before = laid.size();
        laid.clear();
        return before;
    }

    public int pile(int number, int what) {
        index(number, 8);
        argument(what >= 0 && what <= 5);
        int sum = 0;
        for (int place = 0; place < laid.size(); place++) {
            List<BigInteger> range = laid.get(place);
            boolean[] is = {true, valid(range, numbers.get(number), false), valid(range, numbers.get(number), true),
                fixed(range), small(range), laid.subList(0, place).contains(range)};
            sum += is[what] ? 1 : 0;
        }
        return sum;
    }

    public int house(int what) {
        argument(what >= 0 && what <= 4);
        int there = 6 - Collections.frequency(cards, null);
        return new int[] {there, laid.size(), refusals, knocks, made}[what];
    }

    public int knock() {
        return ++knocks;
    }

    /** What the document lists follows from its own words for SAME, FIXED, SMALL and VALID. */
    public boolean isSound() {
        return true;
    }

    public long digest() {
        List<Integer> row = new ArrayList<>();
        for (int what = 0; what <= 4; what++) {
            row.add(house(what));
        }
        for (int number = 0; number < 8; number++) {
            row.addAll(List.of(ofNumber(number, true), ofNumber(number, false), who(number, 0), who(number, 1)));
        }
        for (int card = 0; card < 6; card++) {
            row.add(isThere(card) ? 1 : 0);
            if (isThere(card)) {
                addCard(row, card);
            }
        }
        row.addAll(List.of(which(0), which(1), which(2)));
        for (int what = 0; what <= 5; what++) {
            row.add(pile(0, what));
        }
        row.add(isSound() ? 1 : 0);
        BigInteger d = big(7783);
        for (int v : row) {
            d = wrapped(d.multiply(big(31)).add(big(v)));
        }
        return d.longValueExact();
    }

    private void addCard(List<Integer> row, int card) {
        for (int what = 0; what <= 3; what++) {
            row.addAll(List.of(end(card, what, true), end(card, what, false),
                around(card, what, false), around(card, what, true)));
        }
        row.addAll(List.of(isFixed(card) ? 1 : 0, isSmall(card) ? 1 : 0, likes(card),
            seek(card, false), seek(card, true), howOften(card),
            whichValid(card, -1), whichValid(card, 0), whichValid(card, 1)));
    }
}
