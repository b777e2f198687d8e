/** Promises 39 to 46 on an empty PILE, on one of one RANGE, and on a full one. */
public final class PileEdgesTest {
    private static final Check CHECK = new Check("PileEdgesTest");
    private static final int MIN = Integer.MIN_VALUE;
    private static final int MAX = Integer.MAX_VALUE;
    private static final int[] TWELVE = {1, 2, 3, 4, 5, 6, 7, 8, 9, 10, 11, 12};

    public static void main(String[] args) {
        emptyAtFirst();
        layUpToTwelve();
        layTheSameTwelveTimes();
        layAgainAfterOneWent();
        layKeepsTheCards();
        laidOneOutlivesItsCard();
        seekInEmpty();
        seekInPileOfOne();
        seekAtFirstAndLastPlace();
        seekOfTwelveThatAreTheSame();
        seekAsksAllEnds();
        howOftenOfNoneOneAndTwelve();
        liftFromEmpty();
        liftTheOnlyOne();
        liftFromEachPlace();
        liftTheFirstOfThoseThatAreTheSame();
        liftOneThatIsNotThere();
        pickFromEmpty();
        pickTheOnlyOne();
        pickFromEachPlace();
        pickTheOneAboveTheLast();
        pickTellsWhetherTheCardHadOne();
        turnOfEachLength();
        sweepOfEachLength();
        pileOfNone();
        pileOfOne();
        pileOfTwelve();
        pileCountsThoseBehindTheSame();
        pileAtTheEndsOfNumbers();
        CHECK.end();
    }

    /** Lays a RANGE of one number for each of these; CARD 0 has the last one then, the others none. */
    private static Rangecard withPile(int... values) {
        Rangecard x = new Rangecard();
        for (int value : values) {
            x.twoSmall(0, value, value);
            x.lay(0);
        }
        return x;
    }

    private static Rangecard withPileAndCard(int value, int... values) {
        Rangecard x = withPile(values);
        x.twoSmall(0, value, value);
        return x;
    }

    /** The numbers of the RANGES that were laid by withPile(). */
    private static String pileOf(Rangecard x) {
        StringBuilder text = new StringBuilder();
        for (String range : Scene.pileTold(x).split("\\(")) {
            int end = range.indexOf(' ');
            text.append(end > 0 ? range.substring(0, end) + " " : "");
        }
        return text.toString().strip();
    }

    private static String textOf(int... values) {
        StringBuilder text = new StringBuilder();
        for (int value : values) {
            text.append(value).append(' ');
        }
        return text.toString().strip();
    }

    /** 1 and so on, as many as that. */
    private static int[] upTo(int many) {
        int[] values = new int[many];
        for (int i = 0; i < many; i++) {
            values[i] = i + 1;
        }
        return values;
    }

    private static void emptyAtFirst() {
        Rangecard x = new Rangecard();
        CHECK.due("house(1)", x.house(1), 0);
        CHECK.due("pile(0, 0)", x.pile(0, 0), 0);
        CHECK.due("turn()", x.turn(), 0);
        CHECK.due("sweep()", x.sweep(), 0);
    }

    private static void layUpToTwelve() {
        Rangecard x = new Rangecard();
        for (int i = 1; i <= 12; i++) {
            x.twoSmall(5, i, i);
            CHECK.due("lay(5), the " + i + ". time", x.lay(5), i);
            CHECK.due("house(1)", x.house(1), i);
            CHECK.due("house(2)", x.house(2), 0);
        }
        CHECK.due("lay(5), the 13. time", x.lay(5), -9);
        CHECK.due("house(1)", x.house(1), 12);
        CHECK.due("house(2)", x.house(2), 1);
        CHECK.due("the PILE", pileOf(x), textOf(TWELVE));
    }

    private static void layTheSameTwelveTimes() {
        Rangecard x = new Rangecard();
        x.fourSmall(0, 1, 3, 2, 4);
        for (int i = 1; i <= 12; i++) {
            CHECK.due("lay(0) of the very one, the " + i + ". time", x.lay(0), i);
        }
        CHECK.due("lay(0), the 13. time", x.lay(0), -9);
        CHECK.due("howOften(0)", x.howOften(0), 12);
        CHECK.due("house(4)", x.house(4), 1);
    }

    private static void layAgainAfterOneWent() {
        Rangecard x = withPile(TWELVE);
        CHECK.due("lay(0) on twelve", x.lay(0), -9);
        CHECK.due("lift(0)", x.lift(0), 1);
        CHECK.due("lay(0) on eleven", x.lay(0), 12);
        CHECK.due("lay(0) on twelve again", x.lay(0), -9);
        CHECK.due("sweep()", x.sweep(), 12);
        CHECK.due("lay(0) on none", x.lay(0), 1);
        CHECK.due("house(2)", x.house(2), 2);
        CHECK.due("the PILE", pileOf(x), "12");
    }

    private static void layKeepsTheCards() {
        Rangecard x = Scene.LAST_CARD.make();
        CHECK.due("lay(5)", x.lay(5), 12);
        CHECK.due("cardText(5)", x.cardText(5), "1 9 2 9");
        CHECK.due("house(0)", x.house(0), 1);
    }

    private static void laidOneOutlivesItsCard() {
        Rangecard x = withPile(7);
        x.shift(0, 1);
        CHECK.due("howOften() of what the CARD has then", x.howOften(0), 0);
        x.drop(0);
        CHECK.due("house(1) after drop()", x.house(1), 1);
        CHECK.due("the PILE", pileOf(x), "7");
    }

    private static void seekInEmpty() {
        CHECK.stays("seek(0, false) in none", () -> withPileAndCard(1), x -> x.seek(0, false), -1);
        CHECK.stays("seek(0, true) in none", () -> withPileAndCard(1), x -> x.seek(0, true), -1);
    }

    private static void seekInPileOfOne() {
        CHECK.stays("seek(0, false) in one", () -> withPileAndCard(1, 1), x -> x.seek(0, false), 0);
        CHECK.stays("seek(0, true) in one", () -> withPileAndCard(1, 1), x -> x.seek(0, true), 0);
        CHECK.stays("seek(0, false) of another", () -> withPileAndCard(2, 1), x -> x.seek(0, false), -1);
        CHECK.stays("seek(0, true) of another", () -> withPileAndCard(2, 1), x -> x.seek(0, true), -1);
    }

    private static void seekAtFirstAndLastPlace() {
        for (int value = 1; value <= 12; value++) {
            int sought = value;
            Check.Given given = () -> withPileAndCard(sought, TWELVE);
            CHECK.stays("seek(0, false) of " + value, given, x -> x.seek(0, false), value - 1);
            CHECK.stays("seek(0, true) of " + value, given, x -> x.seek(0, true), value - 1);
        }
        for (int value : new int[] {0, 13}) {
            Check.Given given = () -> withPileAndCard(value, TWELVE);
            CHECK.stays("seek(0, false) of " + value, given, x -> x.seek(0, false), -1);
            CHECK.stays("seek(0, true) of " + value, given, x -> x.seek(0, true), -1);
        }
        Check.Given twice = () -> withPileAndCard(1, 1, 2, 3, 4, 5, 6, 7, 8, 9, 10, 11, 1);
        CHECK.stays("seek(0, false) of the outer ones", twice, x -> x.seek(0, false), 0);
        CHECK.stays("seek(0, true) of the outer ones", twice, x -> x.seek(0, true), 11);
    }

    private static void seekOfTwelveThatAreTheSame() {
        Check.Given given = () -> withPile(5, 5, 5, 5, 5, 5, 5, 5, 5, 5, 5, 5);
        CHECK.stays("seek(0, false) of twelve", given, x -> x.seek(0, false), 0);
        CHECK.stays("seek(0, true) of twelve", given, x -> x.seek(0, true), 11);
        CHECK.stays("howOften(0) of twelve", given, x -> x.howOften(0), 12);
    }

    /** One that differs in one END alone is another one. */
    private static void seekAsksAllEnds() {
        int[][] others = {{9, 30, 20, 40}, {10, 31, 20, 40}, {10, 30, 21, 40}, {10, 30, 20, 41}};
        for (int[] e : others) {
            Check.Given given = () -> {
                Rangecard x = new Rangecard();
                x.fourSmall(0, 10, 30, 20, 40);
                x.lay(0);
                x.fourSmall(1, e[0], e[1], e[2], e[3]);
                return x;
            };
            CHECK.stays("seek(1, false)", given, x -> x.seek(1, false), -1);
            CHECK.stays("seek(1, true)", given, x -> x.seek(1, true), -1);
            CHECK.stays("howOften(1)", given, x -> x.howOften(1), 0);
            CHECK.stays("lift(1)", given, x -> x.lift(1), 0);
            CHECK.stays("seek(0, false)", given, x -> x.seek(0, false), 0);
        }
    }

    private static void howOftenOfNoneOneAndTwelve() {
        CHECK.stays("howOften(0) in none", () -> withPileAndCard(1), x -> x.howOften(0), 0);
        CHECK.stays("howOften(0) of one", () -> withPileAndCard(1, 1), x -> x.howOften(0), 1);
        CHECK.stays("howOften(0) of another", () -> withPileAndCard(2, 1), x -> x.howOften(0), 0);
        CHECK.stays("howOften(0) of the first of twelve", () -> withPileAndCard(1, TWELVE), x -> x.howOften(0), 1);
        CHECK.stays("howOften(0) of the last of twelve", () -> withPileAndCard(12, TWELVE), x -> x.howOften(0), 1);
        CHECK.stays("howOften(0) of none of twelve", () -> withPileAndCard(13, TWELVE), x -> x.howOften(0), 0);
    }

    private static void liftFromEmpty() {
        CHECK.stays("lift(0) from none", () -> withPileAndCard(1), x -> x.lift(0), 0);
    }

    private static void liftTheOnlyOne() {
        Rangecard x = withPile(1);
        CHECK.due("lift(0) of the only one", x.lift(0), 1);
        CHECK.due("house(1)", x.house(1), 0);
        CHECK.due("cardText(0)", x.cardText(0), "1 1 1 1");
        CHECK.due("lift(0) once more", x.lift(0), 0);
        CHECK.due("lay(0)", x.lay(0), 1);
        CHECK.due("house(2)", x.house(2), 0);
    }

    /** The others move up, and none comes behind them. */
    private static void liftFromEachPlace() {
        for (int place = 0; place < 12; place++) {
            Rangecard x = withPileAndCard(place + 1, TWELVE);
            int[] wants = new int[11];
            for (int i = 0; i < 11; i++) {
                wants[i] = i < place ? i + 1 : i + 2;
            }
            CHECK.due("lift(0) of the place " + place, x.lift(0), 1);
            CHECK.due("house(1)", x.house(1), 11);
            CHECK.due("seek(0, false) of what went", x.seek(0, false), -1);
            Rangecard asked = x;
            CHECK.outOfBounds(x, "pick(11, 0) of eleven", () -> asked.pick(11, 0));
            CHECK.due("the PILE", pileOf(x), textOf(wants));
        }
    }

    private static void liftTheFirstOfThoseThatAreTheSame() {
        Rangecard x = withPile(5, 1, 5, 2, 5, 3, 5);
        CHECK.due("lift(0) of 5", x.lift(0), 1);
        CHECK.due("seek(0, false)", x.seek(0, false), 1);
        CHECK.due("seek(0, true)", x.seek(0, true), 5);
        CHECK.due("howOften(0)", x.howOften(0), 3);
        CHECK.due("the PILE", pileOf(x), "1 5 2 5 3 5");
        CHECK.due("lift(0) again", x.lift(0), 1);
        CHECK.due("the PILE", pileOf(x), "1 2 5 3 5");
    }

    private static void liftOneThatIsNotThere() {
        CHECK.stays("lift(0) of 13", () -> withPileAndCard(13, TWELVE), x -> x.lift(0), 0);
        CHECK.stays("lift(0) of 0", () -> withPileAndCard(0, TWELVE), x -> x.lift(0), 0);
    }

    private static void pickFromEmpty() {
        for (int place : new int[] {MIN, -1, 0, 1, 11, 12, MAX}) {
            CHECK.stays("pick(" + place + ", 0) from none", Scene.NEW::make, x -> x.pick(place, 0),
                IndexOutOfBoundsException.class);
        }
        CHECK.stays("pick(0, 0) from what was swept", () -> {
            Rangecard x = withPile(TWELVE);
            x.sweep();
            return x;
        }, x -> x.pick(0, 0), IndexOutOfBoundsException.class);
    }

    private static void pickTheOnlyOne() {
        Rangecard x = withPile(7);
        CHECK.due("pick(0, 5)", x.pick(0, 5), 0);
        CHECK.due("cardText(5)", x.cardText(5), "7 7 7 7");
        CHECK.due("house(1)", x.house(1), 1);
        CHECK.stays("pick(1, 5) of one", () -> withPile(7), y -> y.pick(1, 5), IndexOutOfBoundsException.class);
        CHECK.stays("pick(-1, 5) of one", () -> withPile(7), y -> y.pick(-1, 5), IndexOutOfBoundsException.class);
    }

    private static void pickFromEachPlace() {
        for (int place = 0; place < 12; place++) {
            Rangecard x = withPile(TWELVE);
            int want = place + 1;
            CHECK.due("pick(" + place + ", 5)", x.pick(place, 5), 0);
            CHECK.due("cardText(5)", x.cardText(5), Wide.text(want, want, want, want));
            CHECK.due("house(1)", x.house(1), 12);
            CHECK.due("house(4)", x.house(4), 12);
            CHECK.due("the PILE", pileOf(x), textOf(TWELVE));
        }
    }

    private static void pickTheOneAboveTheLast() {
        for (int many = 0; many <= 12; many++) {
            int[] values = upTo(many);
            CHECK.stays("pick(" + many + ", 0) of " + many, () -> withPile(values), x -> x.pick(values.length, 0),
                IndexOutOfBoundsException.class);
        }
    }

    private static void pickTellsWhetherTheCardHadOne() {
        Rangecard x = withPile(7, 8);
        CHECK.due("pick(0, 0) of a CARD with one", x.pick(0, 0), 1);
        CHECK.due("cardText(0)", x.cardText(0), "7 7 7 7");
        CHECK.due("pick(0, 0) of a CARD with that one", x.pick(0, 0), 1);
        CHECK.due("pick(1, 5) of a CARD without", x.pick(1, 5), 0);
        CHECK.due("pick(1, 5) of it then", x.pick(1, 5), 1);
        x.drop(5);
        CHECK.due("pick(1, 5) after drop()", x.pick(1, 5), 0);
    }

    private static void turnOfEachLength() {
        for (int many = 0; many <= 12; many++) {
            int[] values = upTo(many);
            int[] turned = new int[many];
            for (int i = 0; i < many; i++) {
                turned[i] = many - i;
            }
            Rangecard once = withPile(values);
            CHECK.due("turn() of " + many, once.turn(), many);
            CHECK.due("house(1)", once.house(1), many);
            CHECK.due("the PILE", pileOf(once), textOf(turned));
            Rangecard twice = withPile(values);
            twice.turn();
            CHECK.due("turn() again of " + many, twice.turn(), many);
            CHECK.due("the PILE", pileOf(twice), textOf(values));
        }
    }

    private static void sweepOfEachLength() {
        for (int many = 0; many <= 12; many++) {
            Rangecard x = withPileAndCard(1, upTo(many));
            CHECK.due("sweep() of " + many, x.sweep(), many);
            CHECK.due("house(1)", x.house(1), 0);
            CHECK.due("howOften(0)", x.howOften(0), 0);
            CHECK.due("seek(0, true)", x.seek(0, true), -1);
            CHECK.due("cardText(0)", x.cardText(0), "1 1 1 1");
            CHECK.due("sweep() again", x.sweep(), 0);
            CHECK.due("lay(0)", x.lay(0), 1);
        }
    }

    private static void pileIs(String name, Check.Given given, int number, int... wants) {
        for (int what = 0; what < 6; what++) {
            int asked = what;
            CHECK.stays("pile(" + number + ", " + what + ") of " + name, given, x -> x.pile(number, asked),
                wants[what]);
        }
    }

    private static void pileOfNone() {
        pileIs("none", Scene.NEW::make, 0, 0, 0, 0, 0, 0, 0);
        pileIs("none, all CARDS there", () -> {
            Rangecard x = Scene.FULL.make();
            x.sweep();
            return x;
        }, 7, 0, 0, 0, 0, 0, 0);
    }

    private static void pileOfOne() {
        pileIs("0 alone", () -> withPile(0), 7, 1, 1, 1, 1, 1, 0);
        pileIs("1 alone", () -> withPile(1), 7, 1, 0, 0, 1, 1, 0);
        pileIs("an open one", () -> {
            Rangecard x = new Rangecard();
            x.fourSmall(0, -1, 1, 1, 1);
            x.lay(0);
            return x;
        }, 0, 1, 1, 1, 0, 1, 0);
        pileIs("one that is not SMALL", () -> {
            Rangecard x = new Rangecard();
            Wide.two(x, 0, 0, Wide.SMALL_GREATEST + 1);
            x.lay(0);
            return x;
        }, 0, 1, 1, 0, 1, 0, 0);
    }

    private static void pileOfTwelve() {
        pileIs("1 to 12", () -> withPile(TWELVE), 0, 12, 0, 0, 12, 12, 0);
        pileIs("twelve times 0", () -> withPile(new int[12]), 0, 12, 12, 12, 12, 12, 11);
        pileIs("the whole, twelve times", () -> {
            Rangecard x = new Rangecard();
            Wide.two(x, 0, Wide.LEAST, Wide.GREATEST);
            for (int i = 0; i < 12; i++) {
                x.lay(0);
            }
            return x;
        }, 0, 12, 12, 0, 12, 0, 11);
    }

    /** Each one is counted that has one ahead, wherever it stands, and the first of them is not. */
    private static void pileCountsThoseBehindTheSame() {
        int[][] piles = {{1, 1}, {1, 2}, {1, 2, 1}, {2, 1, 1}, {1, 1, 1}, {1, 2, 1, 2}, {1, 2, 2, 1}, {1, 2, 3, 4},
            {1, 2, 3, 4, 5, 6, 7, 8, 9, 10, 11, 1}, {1, 2, 3, 4, 5, 6, 1, 2, 3, 4, 5, 6}};
        int[] wants = {1, 0, 1, 1, 2, 2, 2, 0, 1, 6};
        for (int i = 0; i < piles.length; i++) {
            Rangecard x = withPile(piles[i]);
            CHECK.due("pile(0, 5) of " + textOf(piles[i]), x.pile(0, 5), wants[i]);
            x.turn();
            CHECK.due("pile(0, 5) of that turned round", x.pile(0, 5), wants[i]);
        }
    }

    private static void pileAtTheEndsOfNumbers() {
        Check.Given given = () -> {
            Rangecard x = new Rangecard();
            long[][] ends = {{Wide.LEAST, Wide.LEAST}, {Wide.LEAST, Wide.SMALL_LEAST - 1},
                {Wide.SMALL_LEAST, Wide.SMALL_LEAST}, {Wide.SMALL_LEAST, Wide.SMALL_GREATEST},
                {Wide.SMALL_GREATEST + 1, Wide.GREATEST}, {Wide.GREATEST, Wide.GREATEST}};
            for (long[] e : ends) {
                Wide.two(x, 0, e[0], e[1]);
                x.lay(0);
            }
            for (int what = 0; what < 4; what++) {
                x.setEnd(what, what);
            }
            Wide.put(x, 4, Wide.SMALL_LEAST - 1);
            Wide.put(x, 5, Wide.SMALL_GREATEST + 1);
            return x;
        };
        int[] valid = {2, 2, 2, 1, 1, 1};
        int[] small = {0, 0, 2, 1, 0, 0};
        for (int number = 0; number < 6; number++) {
            pileIs("RANGES at the ends", given, number, 6, valid[number], small[number], 6, 2, 0);
        }
    }
}
