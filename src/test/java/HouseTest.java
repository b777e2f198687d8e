/** Promise 1, and 47 to 50: a new object, what the house counts, soundness and the checksum. */
public final class HouseTest {
    private static final Check CHECK = new Check("HouseTest");
    private static final int MIN = Integer.MIN_VALUE;
    private static final int MAX = Integer.MAX_VALUE;

    public static void main(String[] args) {
        promise1newObject();
        promise47houseOfCardsAndPile();
        promise47houseOfRefusals();
        promise47houseOfMade();
        promise47houseWithoutSuch();
        promise48knock();
        promise49isSound();
        promise50digestOfNewObject();
        promise50digestWithCardsAndPile();
        promise50digestChangesNothing();
        CHECK.end();
    }

    private static void promise1newObject() {
        Rangecard x = new Rangecard();
        for (int card = 0; card < 6; card++) {
            CHECK.due("isThere(" + card + ")", x.isThere(card), false);
        }
        for (int what = 0; what < 5; what++) {
            CHECK.due("house(" + what + ")", x.house(what), 0);
        }
        CHECK.due("turn()", x.turn(), 0);
        CHECK.due("isSound()", x.isSound(), true);
        Rangecard other = new Rangecard();
        other.twoSmall(0, 1, 2);
        other.lay(0);
        other.setSmall(0, 5);
        CHECK.due("another object's cards are its own", x.isThere(0), false);
        CHECK.due("another object's pile is its own", x.house(1), 0);
        CHECK.due("another object's numbers are its own", x.numberText(0), "0");
    }

    private static void promise47houseOfCardsAndPile() {
        Rangecard x = new Rangecard();
        x.twoSmall(0, 1, 2);
        x.twoSmall(5, 1, 2);
        x.twoSmall(5, 1, 3);
        CHECK.due("house(0)", x.house(0), 2);
        x.lay(5);
        x.lay(5);
        x.lay(0);
        CHECK.due("house(1)", x.house(1), 3);
        x.drop(5);
        CHECK.due("house(0) after drop", x.house(0), 1);
        CHECK.due("house(1) after drop", x.house(1), 3);
        x.lift(0);
        CHECK.due("house(1) after lift", x.house(1), 2);
    }

    private static void promise47houseOfRefusals() {
        Rangecard x = new Rangecard();
        x.setSmall(1, 1);
        x.setEnd(2, 1);
        x.fourSmall(5, 1, 3, 2, 4);
        x.two(4, 1, 2);
        for (int i = 0; i < 12; i++) {
            x.lay(5);
        }
        int refusals = 0;
        int[] answers = {x.two(0, 1, 0), x.three(0, 1, 0, 0), x.four(0, 1, 0, 0, 0), x.twoSmall(0, 2, 1),
            x.threeSmall(0, 2, 1, 0), x.fourSmall(0, 2, 1, 0, 0), x.inner(0, 5), x.shift(4, 1), x.lay(5)};
        for (int answer : answers) {
            CHECK.due("a refused call", answer, -9);
            refusals++;
        }
        CHECK.due("house(2)", x.house(2), refusals);
        x.twoSmall(0, 9, 9);
        CHECK.due("span that is refused", x.span(0, 0, 5), -9);
        CHECK.due("house(2)", x.house(2), refusals + 1);
        CHECK.due("setSmall tells no refusal", x.setSmall(7, -9), 0);
        CHECK.due("ofNumber tells -9", x.ofNumber(7, false), -9);
        CHECK.due("copy tells -9", x.copy(6, 7), -9);
        CHECK.due("move tells -9", x.move(6, 0), -9);
        CHECK.due("setSmall tells -9", x.setSmall(6, 0), -9);
        x.twoSmall(0, -9, -9);
        CHECK.due("end tells -9", x.end(0, 0, false), -9);
        CHECK.due("take tells -9", x.take(0, 0, 5), -9);
        CHECK.due("house(2) counts none of these", x.house(2), refusals + 1);
    }

    private static void promise47houseOfMade() {
        Rangecard x = new Rangecard();
        x.two(0, 0, 1);
        x.three(0, 0, 1, 2);
        x.four(0, 0, 1, 2, 3);
        x.twoSmall(0, 0, 1);
        x.threeSmall(0, 0, 1, 2);
        x.fourSmall(0, 0, 1, 2, 3);
        CHECK.due("house(4) of two() to fourSmall()", x.house(4), 6);
        x.again(1, 0);
        x.outer(2, 0);
        x.inner(3, 0);
        x.span(4, 0, 0);
        x.shift(0, 1);
        CHECK.due("house(4) with again(), outer(), inner(), span() and shift()", x.house(4), 11);
        x.same(5, 0);
        x.lay(0);
        x.pick(0, 3);
        for (int what = 0; what < 5; what++) {
            x.isSameAs(0, what);
        }
        x.isSound();
        x.digest();
        x.lift(0);
        x.drop(0);
        CHECK.due("house(4) counts nothing else", x.house(4), 11);
        x.twoSmall(0, 1, 0);
        CHECK.due("house(4) counts nothing refused", x.house(4), 11);
    }

    private static void promise47houseWithoutSuch() {
        Rangecard x = new Rangecard();
        for (int bad : new int[] {-1, 5, MIN, MAX}) {
            CHECK.badArgument(x, "house(" + bad + ")", () -> x.house(bad));
        }
    }

    private static void promise48knock() {
        Rangecard x = new Rangecard();
        CHECK.due("knock()", x.knock(), 1);
        CHECK.due("knock()", x.knock(), 2);
        CHECK.due("house(3)", x.house(3), 2);
        CHECK.due("knock()", x.knock(), 3);
    }

    private static void promise49isSound() {
        Rangecard x = new Rangecard();
        x.setEnd(0, 0);
        x.setEnd(1, 1);
        x.setEnd(2, 2);
        x.setEnd(3, 3);
        x.two(0, 0, 1);
        CHECK.due("isSound() with the whole", x.isSound(), true);
        x.two(1, 2, 3);
        CHECK.due("isSound() with a small one", x.isSound(), true);
        x.fourSmall(2, 1, 9, 1, 9);
        CHECK.due("isSound() with one crosswise", x.isSound(), true);
        x.two(3, 1, 1);
        x.two(4, 0, 0);
        CHECK.due("isSound() with one number at each end", x.isSound(), true);
        for (int card = 0; card < 5; card++) {
            x.lay(card);
        }
        x.lay(0);
        CHECK.due("isSound() with a pile", x.isSound(), true);
        x.sweep();
        CHECK.due("isSound() without", x.isSound(), true);
    }

    private static void promise50digestOfNewObject() {
        long d = 7783;
        for (int i = 0; i < 5 + 8 * 4 + 6 + 3 + 6; i++) {
            d = d * 31;
        }
        CHECK.due("digest() of a new object", new Rangecard().digest(), d * 31 + 1);
    }

    private static void promise50digestWithCardsAndPile() {
        Rangecard x = new Rangecard();
        x.setSmall(0, 2);
        x.set(1, 3, -4);
        x.setEnd(2, 0);
        x.setEnd(3, 1);
        x.fourSmall(0, -1, 1, 2, 5);
        x.two(2, 2, 3);
        x.same(4, 0);
        x.lay(2);
        x.lay(0);
        x.lay(0);
        x.knock();
        x.twoSmall(1, 1, 0);
        CHECK.due("digest()", x.digest(), digestByCalls(x));
    }

    /** The document's sum, put together from what the other methods answer. */
    private static long digestByCalls(Rangecard x) {
        long d = 7783;
        for (int what = 0; what < 5; what++) {
            d = d * 31 + x.house(what);
        }
        for (int number = 0; number < 8; number++) {
            d = d * 31 + x.ofNumber(number, true);
            d = d * 31 + x.ofNumber(number, false);
            d = d * 31 + x.who(number, 0);
            d = d * 31 + x.who(number, 1);
        }
        for (int card = 0; card < 6; card++) {
            d = x.isThere(card) ? cardByCalls(d * 31 + 1, x, card) : d * 31;
        }
        for (int what = 0; what < 3; what++) {
            d = d * 31 + x.which(what);
        }
        for (int what = 0; what < 6; what++) {
            d = d * 31 + x.pile(0, what);
        }
        return d * 31 + (x.isSound() ? 1 : 0);
    }

    private static long cardByCalls(long start, Rangecard x, int card) {
        long d = start;
        for (int what = 0; what < 4; what++) {
            d = d * 31 + x.end(card, what, true);
            d = d * 31 + x.end(card, what, false);
            d = d * 31 + x.around(card, what, false);
            d = d * 31 + x.around(card, what, true);
        }
        d = d * 31 + (x.isFixed(card) ? 1 : 0);
        d = d * 31 + (x.isSmall(card) ? 1 : 0);
        d = d * 31 + x.likes(card);
        d = d * 31 + x.seek(card, false);
        d = d * 31 + x.seek(card, true);
        d = d * 31 + x.howOften(card);
        d = d * 31 + x.whichValid(card, -1);
        d = d * 31 + x.whichValid(card, 0);
        return d * 31 + x.whichValid(card, 1);
    }

    private static void promise50digestChangesNothing() {
        Rangecard x = new Rangecard();
        x.fourSmall(0, 1, 3, 2, 4);
        x.lay(0);
        long first = x.digest();
        CHECK.due("digest() again", x.digest(), first);
        x.knock();
        CHECK.due("digest() tells a knock", x.digest() != first, true);
    }
}
