import java.math.BigInteger;

/** Promise 1, and 47 to 50: nothing at all, all there can be, and what is counted where a call is refused or throws. */
public final class HouseEdgesTest {
    private static final Check CHECK = new Check("HouseEdgesTest");
    private static final int MIN = Integer.MIN_VALUE;
    private static final int MAX = Integer.MAX_VALUE;

    public static void main(String[] args) {
        newObjectIsEmpty();
        objectsShareNothing();
        houseCountsCardsFromNoneToSix();
        houseCountsThePileFromNoneToTwelve();
        houseCountsNoToldNumberAsRefusal();
        houseCountsNoNoneAsRefusal();
        houseCountsNothingThatIsThrown();
        houseCountsEachRangeThatIsMade();
        houseCountsNoRangeThatIsGiven();
        houseCountsNoRangeThatIsRefused();
        houseAsksChangeNothing();
        knockCountsUpToTheLastCall();
        knockChangesNothingElse();
        soundWithoutCards();
        soundInEachScene();
        soundAtEachTurn();
        soundAtTheEndsOfSixtyFourBits();
        soundWithEachLengthOfPile();
        digestOfEachScene();
        digestWrapsAround();
        digestByHand();
        digestChangesNothing();
        digestTellsEachChange();
        dearestCallsUpToTheLastOne();
        CHECK.end();
    }

    private static void newObjectIsEmpty() {
        CHECK.due("a new object", Scene.told(new Rangecard()),
            "numbers 0 0 0 0 0 0 0 0; house 0 0 0 0 0; cards (-) (-) (-) (-) (-) (-); pile");
    }

    private static void objectsShareNothing() {
        Rangecard x = new Rangecard();
        Rangecard full = Scene.FULL.make();
        full.knock();
        CHECK.due("an object beside a full one", Scene.told(x), Scene.told(new Rangecard()));
        CHECK.due("an object after a full one", Scene.told(new Rangecard()), Scene.told(Scene.NEW.make()));
    }

    private static void houseCountsCardsFromNoneToSix() {
        Rangecard x = new Rangecard();
        for (int card = 0; card < 6; card++) {
            CHECK.due("house(0)", x.house(0), card);
            x.twoSmall(card, 1, 2);
            x.twoSmall(card, 1, 3);
            CHECK.due("house(0) with the CARD " + card, x.house(0), card + 1);
        }
        for (int card = 0; card < 6; card++) {
            x.drop(card);
            x.drop(card);
            CHECK.due("house(0) without the CARD " + card, x.house(0), 5 - card);
        }
    }

    private static void houseCountsThePileFromNoneToTwelve() {
        Rangecard x = new Rangecard();
        x.twoSmall(0, 1, 2);
        for (int many = 1; many <= 13; many++) {
            x.lay(0);
            CHECK.due("house(1)", x.house(1), many < 13 ? many : 12);
        }
        for (int many = 11; many >= -1; many--) {
            x.lift(0);
            CHECK.due("house(1)", x.house(1), many > 0 ? many : 0);
        }
    }

    /** -9 as a number that is told: from each method that can tell one. */
    private static void houseCountsNoToldNumberAsRefusal() {
        Rangecard x = new Rangecard();
        x.set(0, -9, -9);
        CHECK.due("set()", x.set(0, -9, -9), -9);
        CHECK.due("setSmall()", x.setSmall(0, -9), -9);
        CHECK.due("move()", x.move(0, 0), -9);
        CHECK.due("copy()", x.copy(1, 0), -9);
        x.set(2, -9, 0);
        CHECK.due("ofNumber() of HIGH", x.ofNumber(2, true), -9);
        CHECK.due("ofNumber() of LOW", x.ofNumber(0, false), -9);
        x.twoSmall(0, -9, -9);
        CHECK.due("end() of LOW", x.end(0, 0, false), -9);
        CHECK.due("take()", x.take(0, 0, 3), -9);
        x.two(1, 2, 2);
        CHECK.due("end() of HIGH", x.end(1, 3, true), -9);
        CHECK.due("house(2)", x.house(2), 0);
        CHECK.due("twoSmall() that is refused", x.twoSmall(0, 1, 0), -9);
        CHECK.due("house(2)", x.house(2), 1);
    }

    private static void houseCountsNoNoneAsRefusal() {
        Rangecard x = new Rangecard();
        x.twoSmall(0, 1, 2);
        CHECK.due("same() without one", x.same(1, 0), -1);
        CHECK.due("seek() without one", x.seek(0, false), -1);
        CHECK.due("lift() without one", x.lift(0), 0);
        CHECK.due("drop() without one", x.drop(5), 0);
        CHECK.due("house(2)", x.house(2), 0);
    }

    private static void houseCountsNothingThatIsThrown() {
        Rangecard x = Scene.FULL.make();
        int[] before = counts(x);
        CHECK.outOfBounds(x, "twoSmall(6, 1, 0)", () -> x.twoSmall(6, 1, 0));
        CHECK.outOfBounds(x, "twoSmall(6, 0, 1)", () -> x.twoSmall(6, 0, 1));
        CHECK.outOfBounds(x, "again(0, 6)", () -> x.again(0, 6));
        CHECK.outOfBounds(x, "lay(-1)", () -> x.lay(-1));
        CHECK.badArgument(x, "house(5)", () -> x.house(5));
        CHECK.badArgument(x, "house(-1)", () -> x.house(-1));
        x.drop(3);
        CHECK.badState(x, "lay(3)", () -> x.lay(3));
        CHECK.badState(x, "shift(3, 1)", () -> x.shift(3, 1));
        for (int what = 1; what < 5; what++) {
            CHECK.due("house(" + what + ")", x.house(what), before[what]);
        }
    }

    private static int[] counts(Rangecard x) {
        int[] counts = new int[5];
        for (int what = 0; what < 5; what++) {
            counts[what] = x.house(what);
        }
        return counts;
    }

    private static void makes(String call, Check.On it, int more) {
        Rangecard x = Scene.FIRST_CARD.make();
        int before = x.house(4);
        it.answer(x);
        CHECK.due("house(4) after " + call, x.house(4), before + more);
    }

    private static void houseCountsEachRangeThatIsMade() {
        makes("two()", x -> x.two(1, 1, 0), 1);
        makes("three()", x -> x.three(1, 1, 0, 0), 1);
        makes("four()", x -> x.four(1, 1, 0, 0, 2), 1);
        makes("twoSmall()", x -> x.twoSmall(1, 1, 1), 1);
        makes("threeSmall()", x -> x.threeSmall(1, 1, 1, 1), 1);
        makes("fourSmall()", x -> x.fourSmall(1, 1, 1, 1, 1), 1);
        makes("again()", x -> x.again(1, 0), 1);
        makes("again() of its own", x -> x.again(0, 0), 1);
        makes("outer()", x -> x.outer(1, 0), 1);
        makes("inner()", x -> x.inner(1, 0), 1);
        makes("span()", x -> x.span(1, 0, 0), 1);
        makes("shift()", x -> x.shift(0, 1), 1);
        makes("shift() by nothing", x -> x.shift(0, 0), 1);
    }

    private static void houseCountsNoRangeThatIsGiven() {
        makes("same()", x -> x.same(1, 0), 0);
        makes("pick()", x -> x.pick(0, 1), 0);
        makes("lay()", x -> x.lay(0), 0);
        makes("lift()", x -> x.lift(0), 0);
        makes("drop()", x -> x.drop(0), 0);
        makes("turn()", x -> x.turn(), 0);
        makes("sweep()", x -> x.sweep(), 0);
        for (int what = 0; what < 5; what++) {
            int asked = what;
            makes("isSameAs(0, " + what + ")", x -> x.isSameAs(0, asked), 0);
        }
        makes("isSound()", x -> x.isSound(), 0);
        makes("digest()", x -> x.digest(), 0);
    }

    private static void houseCountsNoRangeThatIsRefused() {
        makes("two() refused", x -> x.two(1, 0, 1), 0);
        makes("three() refused", x -> x.three(1, 0, 1, 1), 0);
        makes("four() refused", x -> x.four(1, 0, 1, 1, 1), 0);
        makes("twoSmall() refused", x -> x.twoSmall(1, 1, 0), 0);
        makes("threeSmall() refused", x -> x.threeSmall(1, 1, 0, 0), 0);
        makes("fourSmall() refused", x -> x.fourSmall(1, 1, 0, 0, 0), 0);
    }

    private static void houseAsksChangeNothing() {
        int[] wants = {6, 12, 1, 2, 6};
        for (int what = 0; what < 5; what++) {
            int asked = what;
            CHECK.stays("house(" + what + ")", Scene.FULL::make, x -> x.house(asked), wants[what]);
        }
        for (int bad : new int[] {MIN, -1, 5, MAX}) {
            CHECK.stays("house(" + bad + ")", Scene.FULL::make, x -> x.house(bad), IllegalArgumentException.class);
        }
    }

    private static void knockCountsUpToTheLastCall() {
        Rangecard x = new Rangecard();
        for (int times = 1; times <= 511; times++) {
            CHECK.due("knock(), the " + times + ". time", x.knock(), times);
        }
        CHECK.due("house(3)", x.house(3), 511);
    }

    private static void knockChangesNothingElse() {
        Rangecard x = Scene.FULL.make();
        CHECK.due("knock()", x.knock(), 3);
        String before = Scene.told(Scene.FULL.make());
        CHECK.due("all else", Scene.told(x), before.replace("house 6 12 1 2 6", "house 6 12 1 3 6"));
    }

    private static void soundWithoutCards() {
        Rangecard x = new Rangecard();
        CHECK.due("isSound() of a new object", x.isSound(), true);
        for (int number = 0; number < 8; number++) {
            x.setEnd(number, number % 4);
        }
        CHECK.due("isSound() with far NUMBERS alone", x.isSound(), true);
    }

    private static void soundInEachScene() {
        for (Scene scene : Scene.values()) {
            CHECK.stays("isSound() of " + scene, scene::make, x -> x.isSound(), true);
        }
    }

    /** FIXED and not, SMALL and not, crosswise and not, and NUMBERS just within and just beyond. */
    private static void soundAtEachTurn() {
        for (long t : Wide.turns()) {
            Rangecard x = new Rangecard();
            Wide.four(x, 0, t, t, t, t);
            Wide.four(x, 1, t + 1, t + 1, t + 1, t + 1);
            Wide.four(x, 2, t, t + 1, t, t + 1);
            Wide.four(x, 3, t, t, t + 1, t + 1);
            Wide.four(x, 4, t, t, t, t + 1);
            Wide.four(x, 5, t, t + 1, t + 1, t + 1);
            for (int number = 0; number < 8; number++) {
                Wide.put(x, number, t + number - 3);
            }
            for (int card = 0; card < 6; card++) {
                x.lay(card);
            }
            CHECK.due("isSound() with RANGES at " + t, x.isSound(), true);
        }
    }

    /** What is beyond these wraps around, and is VALID then. */
    private static void soundAtTheEndsOfSixtyFourBits() {
        long[][] rows = {{Wide.LEAST, Wide.LEAST, Wide.GREATEST, Wide.GREATEST},
            {Wide.LEAST, Wide.GREATEST, Wide.LEAST, Wide.GREATEST}, {Wide.LEAST, 0, 0, Wide.GREATEST},
            {Wide.LEAST, Wide.LEAST, Wide.LEAST, Wide.LEAST}, {Wide.LEAST, Wide.LEAST, Wide.LEAST, Wide.GREATEST - 1},
            {Wide.GREATEST, Wide.GREATEST, Wide.GREATEST, Wide.GREATEST},
            {Wide.LEAST + 1, Wide.GREATEST, Wide.GREATEST, Wide.GREATEST}};
        for (long[] e : rows) {
            Rangecard x = new Rangecard();
            Wide.four(x, 5, e[0], e[1], e[2], e[3]);
            CHECK.due("isSound() of " + x.cardText(5), x.isSound(), true);
        }
    }

    private static void soundWithEachLengthOfPile() {
        Rangecard x = new Rangecard();
        for (int many = 1; many <= 12; many++) {
            x.twoSmall(0, many % 5, 9);
            x.lay(0);
            CHECK.due("isSound() with a PILE of " + many, x.isSound(), true);
        }
        x.turn();
        CHECK.due("isSound() with a PILE turned round", x.isSound(), true);
        x.drop(0);
        CHECK.due("isSound() with a PILE alone", x.isSound(), true);
        x.sweep();
        CHECK.due("isSound() with nothing", x.isSound(), true);
    }

    /** The sum of the document, without wrapping around until the end, of what the methods answer. */
    private static final class Sum {
        private BigInteger d = BigInteger.valueOf(7783);

        private void with(int v) {
            d = d.multiply(BigInteger.valueOf(31)).add(BigInteger.valueOf(v));
        }

        private void with(boolean v) {
            with(v ? 1 : 0);
        }

        private static long of(Rangecard x) {
            Sum sum = new Sum();
            for (int what = 0; what <= 4; what++) {
                sum.with(x.house(what));
            }
            for (int number = 0; number <= 7; number++) {
                sum.with(x.ofNumber(number, true));
                sum.with(x.ofNumber(number, false));
                sum.with(x.who(number, 0));
                sum.with(x.who(number, 1));
            }
            for (int card = 0; card <= 5; card++) {
                sum.withCard(x, card);
            }
            for (int what = 0; what <= 2; what++) {
                sum.with(x.which(what));
            }
            for (int what = 0; what <= 5; what++) {
                sum.with(x.pile(0, what));
            }
            sum.with(x.isSound());
            return sum.d.longValue();
        }

        private void withCard(Rangecard x, int card) {
            with(x.isThere(card));
            if (!x.isThere(card)) {
                return;
            }
            for (int what = 0; what <= 3; what++) {
                with(x.end(card, what, true));
                with(x.end(card, what, false));
                with(x.around(card, what, false));
                with(x.around(card, what, true));
            }
            with(x.isFixed(card));
            with(x.isSmall(card));
            with(x.likes(card));
            with(x.seek(card, false));
            with(x.seek(card, true));
            with(x.howOften(card));
            for (int value = -1; value <= 1; value++) {
                with(x.whichValid(card, value));
            }
        }
    }

    private static void digestOfEachScene() {
        for (Scene scene : Scene.values()) {
            CHECK.due("digest() of " + scene, scene.make().digest(), Sum.of(scene.make()));
        }
    }

    private static void digestWrapsAround() {
        for (long t : Wide.turns()) {
            Check.Given given = () -> {
                Rangecard x = new Rangecard();
                Wide.four(x, 0, t, t + 1, t, t + 1);
                Wide.four(x, 5, t, t, t, t + 1);
                x.lay(5);
                x.lay(0);
                x.lay(5);
                Wide.put(x, 0, t);
                return x;
            };
            CHECK.due("digest() at " + t, given.made().digest(), Sum.of(given.made()));
        }
    }

    /** Of a new object each v is 0 but the last one; with a NUMBER 7 of -1 two of them are -1 as well. */
    private static void digestByHand() {
        BigInteger base = BigInteger.valueOf(31);
        BigInteger start = BigInteger.valueOf(7783).multiply(base.pow(53)).add(BigInteger.ONE);
        Rangecard x = new Rangecard();
        CHECK.due("digest() of a new object", x.digest(), start.longValue());
        x.setSmall(7, -1);
        BigInteger with = start.subtract(base.pow(19)).subtract(base.pow(18));
        CHECK.due("digest() with -1", x.digest(), with.longValue());
        x.knock();
        CHECK.due("digest() with a knock", x.digest(), with.add(base.pow(49)).longValue());
    }

    private static void digestChangesNothing() {
        for (Scene scene : Scene.values()) {
            CHECK.stays("digest() of " + scene, scene::make, x -> x.digest(), scene.make().digest());
            CHECK.stays("digest() twice", scene::make, x -> x.digest() - x.digest(), 0L);
        }
    }

    private static void changes(String call, Check.On it) {
        Rangecard x = Scene.FIRST_CARD.make();
        long before = x.digest();
        it.answer(x);
        CHECK.due("digest() is another one after " + call, x.digest() != before, true);
    }

    private static void digestTellsEachChange() {
        for (int number = 0; number < 8; number++) {
            int moved = number;
            changes("move(" + number + ", 1)", x -> x.move(moved, 1));
        }
        for (int card = 0; card < 6; card++) {
            int given = card;
            changes("twoSmall(" + card + ", 7, 8)", x -> x.twoSmall(given, 7, 8));
        }
        changes("twoSmall() refused", x -> x.twoSmall(0, 1, 0));
        changes("knock()", x -> x.knock());
        changes("lay(0)", x -> x.lay(0));
        changes("sweep()", x -> x.sweep());
        changes("drop(0)", x -> x.drop(0));
    }

    private static void dearestCallsUpToTheLastOne() {
        Rangecard x = Scene.FULL.make();
        long first = x.digest();
        String text = x.cardText(2);
        for (int times = 0; times < 120; times++) {
            CHECK.due("digest()", x.digest(), first);
            CHECK.due("isSound()", x.isSound(), true);
            CHECK.due("cardText(2)", x.cardText(2), text);
        }
    }
}
