import java.lang.reflect.InvocationTargetException;
import java.lang.reflect.Method;
import java.util.Arrays;

/** Long runs of calls, drawn from a fixed row of numbers, each answered by Rangecard and by Model alike. */
public final class ModelRunsTest {
    private static final Check CHECK = new Check("ModelRunsTest");
    private static final int RUNS = 600;
    private static final int CALLS = 512;

    /** Each method with its arguments: n NUMBER, c CARD, v number of 32 bits, w what, m many, p place, b boolean. */
    private static final String[] METHODS = {
        "set nvv", "setSmall nv", "setEnd nw", "move nv", "copy nn", "ofNumber nb", "numberText n", "order nn",
        "two cnn", "three cnnn", "four cnnnn", "twoSmall cvv", "threeSmall cvvv", "fourSmall cvvvv", "again cc",
        "same cc", "outer cc", "inner cc", "span ccc", "shift cv", "drop c", "isThere c", "isFixed c", "isSmall c",
        "end cwb", "take cwn", "cardText c", "isValid cn", "isValidSmall cn", "whichValid cv", "around cwb",
        "count cvm", "who nw", "which w", "areSame cc", "isSameAs cw", "likes c", "lay c", "seek cb", "howOften c",
        "lift c", "pick pc", "turn ", "sweep ", "pile nw", "house w", "knock ", "isSound ", "digest "};

    /** Drawn far more often than the others, so that cards and pile are mostly filled. */
    private static final String[] FILLING = {"two cnn", "four cnnnn", "fourSmall cvvvv", "lay c", "lay c", "pick pc",
        "setEnd nw", "setSmall nv", "move nv", "digest "};

    private static final int[] EDGES = {Integer.MIN_VALUE, Integer.MIN_VALUE + 1, Integer.MAX_VALUE,
        Integer.MAX_VALUE - 1, 59, 60, 61, -9, -100};

    private long seed;

    private ModelRunsTest(long seed) {
        this.seed = seed;
    }

    public static void main(String[] args) throws Exception {
        CHECK.due("methods that are run", METHODS.length, 49);
        for (int run = 1; run <= RUNS; run++) {
            new ModelRunsTest(run).run(run);
        }
        CHECK.end();
    }

    private void run(int run) throws Exception {
        Rangecard x = new Rangecard();
        Model model = new Model();
        for (int i = 0; i < CALLS; i++) {
            String[] from = below(3) == 0 ? FILLING : METHODS;
            String[] parts = from[below(from.length)].split(" ", -1);
            if (parts[0].equals("sweep") && below(8) != 0) {
                continue;
            }
            Object[] values = drawn(parts[1]);
            String call = "run " + run + ", call " + i + ": " + parts[0] + Arrays.toString(values);
            CHECK.due(call, answer(x, parts[0], values), answer(model, parts[0], values));
        }
    }

    private Object[] drawn(String kinds) {
        Object[] values = new Object[kinds.length()];
        for (int i = 0; i < values.length; i++) {
            values[i] = drawnOne(kinds.charAt(i));
        }
        return values;
    }

    private Object drawnOne(char kind) {
        if (kind == 'b') {
            return below(2) == 0;
        }
        if (kind == 'v') {
            return below(6) == 0 ? EDGES[below(EDGES.length)] : below(7) - 3;
        }
        if (below(60) == 0) {
            return EDGES[below(EDGES.length)];
        }
        switch (kind) {
            case 'n':
                return inside(8);
            case 'c':
                return inside(6);
            case 'w':
                return inside(5);
            case 'm':
                return inside(61);
            default:
                return inside(12);
        }
    }

    /** Mostly 0 to below the bound, now and then just outside. */
    private int inside(int bound) {
        int draw = below(40 * bound);
        return draw == 0 ? -1 : draw == 1 ? bound : draw % bound;
    }

    private int below(int bound) {
        seed = seed * 6364136223846793005L + 1442695040888963407L;
        return (int) ((seed >>> 33) % bound);
    }

    /** An exception counts as the answer, by its class. */
    private static Object answer(Object of, String name, Object[] values) throws Exception {
        for (Method method : of.getClass().getMethods()) {
            if (method.getName().equals(name) && method.getDeclaringClass() == of.getClass()) {
                try {
                    return method.invoke(of, values);
                } catch (InvocationTargetException e) {
                    return e.getCause().getClass();
                }
            }
        }
        throw new IllegalStateException("no method " + name);
    }
}
