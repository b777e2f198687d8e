/** Counts what a test looks at, and prints each answer that is not the one due. */
final class Check {
    interface Call {
        Object answer();
    }

    private static final int[] NO_NUMBERS = {-1, 8, Integer.MIN_VALUE, Integer.MAX_VALUE};
    private static final int[] NO_CARDS = {-1, 6, Integer.MIN_VALUE, Integer.MAX_VALUE};

    private final String name;
    private int passed = 0;
    private int failed = 0;

    Check(String name) {
        this.name = name;
    }

    static int[] noNumbers() {
        return NO_NUMBERS.clone();
    }

    static int[] noCards() {
        return NO_CARDS.clone();
    }

    void due(String call, Object got, Object want) {
        if (want.equals(got)) {
            passed++;
        } else {
            failed++;
            System.out.println(name + ": " + call + " answered " + got + ", due is " + want);
        }
    }

    /** The call throws just that exception, no kind of it, and leaves the object as it was. */
    private void thrown(Rangecard x, String call, Class<?> want, Call it) {
        long before = x.digest();
        Object got;
        try {
            got = it.answer();
        } catch (RuntimeException e) {
            got = e.getClass();
        }
        due(call, got, want);
        due(call + " leaves all as it was", x.digest(), before);
    }

    void outOfBounds(Rangecard x, String call, Call it) {
        thrown(x, call, IndexOutOfBoundsException.class, it);
    }

    void badArgument(Rangecard x, String call, Call it) {
        thrown(x, call, IllegalArgumentException.class, it);
    }

    void badState(Rangecard x, String call, Call it) {
        thrown(x, call, IllegalStateException.class, it);
    }

    /** To be called last. */
    void end() {
        System.out.println(name + ": " + passed + " passed, " + failed + " failed");
        if (failed != 0 || passed == 0) {
            System.exit(1);
        }
    }
}
