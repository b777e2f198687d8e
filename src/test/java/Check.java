/** Counts what a test looks at, and prints each answer that is not the one due. */
final class Check {
    interface Call {
        Object answer();
    }

    /** Makes an object, each time by the same calls. */
    interface Given {
        Rangecard made();
    }

    interface On {
        Object answer(Rangecard x);
    }

    private static final int[] NO_NUMBERS = {-1, 8, Integer.MIN_VALUE, Integer.MAX_VALUE};
    private static final int[] NO_CARDS = {-1, 6, Integer.MIN_VALUE, Integer.MAX_VALUE};

    private final String name;
    private int passed = 0;
    private int failed = 0;

    Check(String name) {
        this.name = name;
    }

    static int[] noNumbers() {
        return NO_NUMBERS.clone();
    }

    static int[] noCards() {
        return NO_CARDS.clone();
    }

    void due(String call, Object got, Object want) {
        if (want.equals(got)) {
            passed++;
        } else {
            failed++;
            System.out.println(name + ": " + call + " answered " + got + ", due is " + want);
        }
    }

    /** The call throws just that exception, no kind of it, and leaves the object as it was. */
    private void thrown(Rangecard x, String call, Class<?> want, Call it) {
        long before = x.digest();
        Object got;
        try {
            got = it.answer();
        } catch (RuntimeException e) {
            got = e.getClass();
        }
        due(call, got, want);
        due(call + " leaves all as it was", x.digest(), before);
    }

    void outOfBounds(Rangecard x, String call, Call it) {
        thrown(x, call, IndexOutOfBoundsException.class, it);
    }

    void badArgument(Rangecard x, String call, Call it) {
        thrown(x, call, IllegalArgumentException.class, it);
    }

    void badState(Rangecard x, String call, Call it) {
        thrown(x, call, IllegalStateException.class, it);
    }

    /** The call is answered so, and leaves all that can be seen as it was. */
    void stays(String call, Given given, On it, Object want) {
        Rangecard x = given.made();
        due(call, answer(x, it), want);
        due(call + " leaves all as it was", Scene.told(x), Scene.told(given.made()));
    }

    /** The call tells -9 and is counted; all else stays. */
    void refused(String call, Given given, On it) {
        Rangecard x = given.made();
        due(call, answer(x, it), -9);
        due(call + " changes only what is counted", Scene.told(x, 1), Scene.told(given.made()));
    }

    /** An exception counts as the answer, by its class. */
    private static Object answer(Rangecard x, On it) {
        try {
            return it.answer(x);
        } catch (RuntimeException e) {
            return e.getClass();
        }
    }

    /** To be called last. */
    void end() {
        System.out.println(name + ": " + passed + " passed, " + failed + " failed");
        if (failed != 0 || passed == 0) {
            System.exit(1);
        }
    }
}
