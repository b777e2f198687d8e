/** Objects to call on, made anew by the same calls each time, and all that can be seen of an object as one text. */
enum Scene {
    /** No CARD with a RANGE, and an empty PILE. */
    NEW,
    /** CARD 0 alone with a RANGE, a PILE of one. */
    FIRST_CARD,
    /** CARD 5 alone with a RANGE, a PILE of eleven. */
    LAST_CARD,
    /** All six CARDS with RANGES, a PILE of twelve. */
    FULL;

    static final int[] LAID = {0, 1, 11, 12};

    Rangecard make() {
        Rangecard x = new Rangecard();
        switch (this) {
            case FIRST_CARD:
                x.fourSmall(0, -2, 1, 4, 5);
                break;
            case LAST_CARD:
                x.fourSmall(5, 1, 9, 2, 9);
                break;
            case FULL:
                fillCards(x);
                break;
            default:
                return x;
        }
        fillPile(x);
        setNumbers(x);
        x.twoSmall(0, 1, 0);
        x.knock();
        x.knock();
        return x;
    }

    private static void fillCards(Rangecard x) {
        x.twoSmall(0, 3, 7);
        x.threeSmall(1, 3, 5, 7);
        Wide.four(x, 2, Wide.LEAST, 2, 1, Wide.GREATEST);
        Wide.four(x, 3, Wide.LEAST, Wide.LEAST, Wide.GREATEST, Wide.GREATEST);
        x.fourSmall(4, 3, 3, 7, 7);
        Wide.four(x, 5, Wide.SMALL_LEAST - 1, 0, 0, Wide.SMALL_GREATEST);
    }

    /** From the CARDS that have a RANGE, in turn; each one of them is laid more than once, if there is room. */
    private void fillPile(Rangecard x) {
        int laid = 0;
        for (int turn = 0; laid < LAID[ordinal()]; turn++) {
            if (x.isThere(turn * 5 % 6)) {
                x.lay(turn * 5 % 6);
                laid++;
            }
        }
    }

    private static void setNumbers(Rangecard x) {
        long[] values = {4, 3, 8, Wide.LEAST, Wide.GREATEST, Wide.SMALL_LEAST - 1, Wide.SMALL_GREATEST + 1, -5};
        for (int number = 0; number < values.length; number++) {
            Wide.put(x, number, values[number]);
        }
    }

    /** The object is used up by it, as the PILE is told by picking from it. */
    static String told(Rangecard x) {
        return told(x, 0);
    }

    /** As told(), but as if so many had not been refused. */
    static String told(Rangecard x, int refusedSince) {
        StringBuilder text = new StringBuilder("numbers");
        for (int number = 0; number < 8; number++) {
            text.append(' ').append(x.numberText(number));
        }
        text.append("; house");
        for (int what = 0; what < 5; what++) {
            text.append(' ').append(x.house(what) - (what == 2 ? refusedSince : 0));
        }
        text.append("; cards");
        for (int card = 0; card < 6; card++) {
            text.append(" (").append(x.cardText(card)).append(')');
        }
        return text.append("; pile").append(pileTold(x)).toString();
    }

    /** CARD 5 has another RANGE after that, if there is one in the PILE. */
    static String pileTold(Rangecard x) {
        StringBuilder text = new StringBuilder();
        int laid = x.house(1);
        for (int place = 0; place < laid; place++) {
            x.pick(place, 5);
            text.append(" (").append(x.cardText(5)).append(')');
        }
        return text.toString();
    }
}
