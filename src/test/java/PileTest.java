/** Promises 39 to 46: the pile. */
public final class PileTest {
    private static final Check CHECK = new Check("PileTest");
    private static final int MIN = Integer.MIN_VALUE;
    private static final int MAX = Integer.MAX_VALUE;

    public static void main(String[] args) {
        promise39lay();
        promise40seek();
        promise41howOften();
        promise42lift();
        promise43pick();
        promise44turn();
        promise45sweep();
        promise46pile();
        CHECK.end();
    }

    /** Lays a range of one number for each of these; CARD 0 keeps the last one. */
    private static Rangecard withPile(int... values) {
        Rangecard x = new Rangecard();
        for (int value : values) {
            x.twoSmall(0, value, value);
            x.lay(0);
        }
        return x;
    }

    /** The pile from the first one to the last, told by picking each; CARD 5 has no range after that. */
    private static String told(Rangecard x) {
        StringBuilder text = new StringBuilder();
        for (int place = 0; place < x.house(1); place++) {
            x.pick(place, 5);
            String ends = x.cardText(5);
            text.append('(').append(ends, 0, ends.indexOf(' ')).append(')');
        }
        x.drop(5);
        return text.toString();
    }

    private static void promise39lay() {
        Rangecard x = new Rangecard();
        for (int i = 1; i <= 12; i++) {
            x.twoSmall(0, i, i);
            CHECK.due("lay(0) of " + i, x.lay(0), i);
        }
        CHECK.due("cardText(0) is kept", x.cardText(0), "12 12 12 12");
        CHECK.due("house(2)", x.house(2), 0);
        CHECK.due("lay(0) of one more", x.lay(0), -9);
        CHECK.due("house(2)", x.house(2), 1);
        CHECK.due("house(1)", x.house(1), 12);
        CHECK.due("the pile", told(x), "(1)(2)(3)(4)(5)(6)(7)(8)(9)(10)(11)(12)");
        CHECK.badState(x, "lay(5) of none, the pile full", () -> x.lay(5));
        x.lift(0);
        CHECK.due("lay(0) after one is lifted", x.lay(0), 12);
        x.shift(0, 5);
        CHECK.due("what is laid stays", told(x), "(1)(2)(3)(4)(5)(6)(7)(8)(9)(10)(11)(12)");
        for (int bad : Check.noCards()) {
            CHECK.outOfBounds(x, "lay(" + bad + ")", () -> x.lay(bad));
        }
    }

    private static void promise40seek() {
        Rangecard x = withPile(1, 2, 1, 3, 2, 4);
        x.twoSmall(0, 1, 1);
        CHECK.due("seek(0, false) of 1", x.seek(0, false), 0);
        CHECK.due("seek(0, true) of 1", x.seek(0, true), 2);
        x.twoSmall(0, 2, 2);
        CHECK.due("seek(0, false) of 2", x.seek(0, false), 1);
        CHECK.due("seek(0, true) of 2", x.seek(0, true), 4);
        x.twoSmall(0, 4, 4);
        CHECK.due("seek(0, false) of 4", x.seek(0, false), 5);
        CHECK.due("seek(0, true) of 4", x.seek(0, true), 5);
        x.turn();
        CHECK.due("seek(0, false) of 4, turned", x.seek(0, false), 0);
        CHECK.due("seek(0, true) of 4, turned", x.seek(0, true), 0);
        x.twoSmall(0, 1, 2);
        CHECK.due("seek(0, false) of 1 to 2", x.seek(0, false), -1);
        CHECK.due("seek(0, true) of 1 to 2", x.seek(0, true), -1);
        CHECK.badState(x, "seek(5, true) of none", () -> x.seek(5, true));
        CHECK.badState(x, "seek(5, false) of none", () -> x.seek(5, false));
        for (int bad : Check.noCards()) {
            CHECK.outOfBounds(x, "seek(" + bad + ", true)", () -> x.seek(bad, true));
            CHECK.outOfBounds(x, "seek(" + bad + ", false)", () -> x.seek(bad, false));
        }
    }

    private static void promise41howOften() {
        Rangecard x = withPile(1, 2, 1, 3, 1);
        x.fourSmall(0, 1, 1, 1, 1);
        CHECK.due("howOften(0) of 1", x.howOften(0), 3);
        x.twoSmall(0, 3, 3);
        CHECK.due("howOften(0) of 3", x.howOften(0), 1);
        x.threeSmall(0, 1, 1, 2);
        CHECK.due("howOften(0) of 1 1 1 2", x.howOften(0), 0);
        CHECK.badState(x, "howOften(5) of none", () -> x.howOften(5));
        for (int bad : Check.noCards()) {
            CHECK.outOfBounds(x, "howOften(" + bad + ")", () -> x.howOften(bad));
        }
    }

    private static void promise42lift() {
        Rangecard x = withPile(1, 2, 1, 3, 2);
        x.twoSmall(0, 2, 2);
        CHECK.due("lift(0) of 2", x.lift(0), 1);
        CHECK.due("the pile", told(x), "(1)(1)(3)(2)");
        CHECK.due("cardText(0) is kept", x.cardText(0), "2 2 2 2");
        CHECK.due("lift(0) of 2 again", x.lift(0), 1);
        CHECK.due("the pile", told(x), "(1)(1)(3)");
        CHECK.due("lift(0) of 2, which is gone", x.lift(0), 0);
        CHECK.due("the pile", told(x), "(1)(1)(3)");
        x.twoSmall(0, 1, 1);
        CHECK.due("lift(0) of 1", x.lift(0), 1);
        CHECK.due("the pile", told(x), "(1)(3)");
        CHECK.due("house(2)", x.house(2), 0);
        CHECK.badState(x, "lift(5) of none", () -> x.lift(5));
        for (int bad : Check.noCards()) {
            CHECK.outOfBounds(x, "lift(" + bad + ")", () -> x.lift(bad));
        }
        Rangecard full = withPile(1, 2, 3, 4, 5, 6, 7, 8, 9, 10, 11, 12);
        CHECK.due("lift(0) of the last of twelve", full.lift(0), 1);
        full.twoSmall(0, 1, 1);
        CHECK.due("lift(0) of the first", full.lift(0), 1);
        CHECK.due("the pile", told(full), "(2)(3)(4)(5)(6)(7)(8)(9)(10)(11)");
    }

    private static void promise43pick() {
        Rangecard x = withPile(1, 2, 3);
        CHECK.due("pick(0, 1) without one", x.pick(0, 1), 0);
        CHECK.due("cardText(1)", x.cardText(1), "1 1 1 1");
        CHECK.due("pick(2, 1) with one", x.pick(2, 1), 1);
        CHECK.due("cardText(1)", x.cardText(1), "3 3 3 3");
        CHECK.due("pick(2, 1) with the same", x.pick(2, 1), 1);
        CHECK.due("house(1)", x.house(1), 3);
        CHECK.due("house(4) counts only the made ones", x.house(4), 3);
        for (int bad : new int[] {-1, 3, 11, 12, MIN, MAX}) {
            CHECK.outOfBounds(x, "pick(" + bad + ", 1)", () -> x.pick(bad, 1));
        }
        for (int bad : Check.noCards()) {
            CHECK.outOfBounds(x, "pick(0, " + bad + ")", () -> x.pick(0, bad));
        }
        x.sweep();
        CHECK.outOfBounds(x, "pick(0, 1) of an empty pile", () -> x.pick(0, 1));
        Rangecard full = withPile(1, 2, 3, 4, 5, 6, 7, 8, 9, 10, 11, 12);
        CHECK.due("pick(11, 2) of twelve", full.pick(11, 2), 0);
        CHECK.due("cardText(2)", full.cardText(2), "12 12 12 12");
        CHECK.outOfBounds(full, "pick(12, 2) of twelve", () -> full.pick(12, 2));
    }

    private static void promise44turn() {
        CHECK.due("turn() of none", new Rangecard().turn(), 0);
        Rangecard x = withPile(1);
        CHECK.due("turn() of one", x.turn(), 1);
        CHECK.due("the pile", told(x), "(1)");
        Rangecard even = withPile(1, 2, 3, 4);
        CHECK.due("turn() of four", even.turn(), 4);
        CHECK.due("the pile", told(even), "(4)(3)(2)(1)");
        Rangecard odd = withPile(1, 2, 3);
        CHECK.due("turn() of three", odd.turn(), 3);
        CHECK.due("the pile", told(odd), "(3)(2)(1)");
        odd.turn();
        CHECK.due("the pile turned back", told(odd), "(1)(2)(3)");
        Rangecard full = withPile(1, 2, 3, 4, 5, 6, 7, 8, 9, 10, 11, 12);
        CHECK.due("turn() of twelve", full.turn(), 12);
        CHECK.due("the pile", told(full), "(12)(11)(10)(9)(8)(7)(6)(5)(4)(3)(2)(1)");
    }

    private static void promise45sweep() {
        CHECK.due("sweep() of none", new Rangecard().sweep(), 0);
        Rangecard x = withPile(1, 2, 1);
        CHECK.due("sweep()", x.sweep(), 3);
        CHECK.due("house(1)", x.house(1), 0);
        CHECK.due("howOften(0)", x.howOften(0), 0);
        CHECK.due("cardText(0) is kept", x.cardText(0), "1 1 1 1");
        CHECK.due("sweep() again", x.sweep(), 0);
        CHECK.due("lay(0)", x.lay(0), 1);
        CHECK.due("the pile", told(x), "(1)");
    }

    private static void promise46pile() {
        Rangecard x = new Rangecard();
        x.setSmall(1, 3);
        x.setEnd(2, 1);
        x.setEnd(3, 2);
        for (int what = 0; what < 6; what++) {
            CHECK.due("pile(1, " + what + ") of none", x.pile(1, what), 0);
        }
        x.twoSmall(0, 1, 4);
        x.lay(0);
        x.lay(0);
        x.fourSmall(0, 1, 2, 3, 4);
        x.lay(0);
        x.two(0, 3, 2);
        x.lay(0);
        x.twoSmall(0, 4, 9);
        x.lay(0);
        x.fourSmall(0, 1, 1, 4, 4);
        x.lay(0);
        x.fourSmall(0, 5, 6, 7, 8);
        x.lay(0);
        int[] wants = {7, 5, 4, 5, 6, 2};
        for (int what = 0; what < 6; what++) {
            CHECK.due("pile(1, " + what + ")", x.pile(1, what), wants[what]);
        }
        CHECK.due("pile(0, 1) of 0", x.pile(0, 1), 1);
        CHECK.due("pile(0, 2) of 0", x.pile(0, 2), 0);
        for (int bad : new int[] {-1, 6, MIN, MAX}) {
            CHECK.badArgument(x, "pile(1, " + bad + ")", () -> x.pile(1, bad));
        }
        for (int bad : Check.noNumbers()) {
            CHECK.outOfBounds(x, "pile(" + bad + ", 0)", () -> x.pile(bad, 0));
            CHECK.outOfBounds(x, "pile(" + bad + ", 6)", () -> x.pile(bad, 6));
        }
    }
}
