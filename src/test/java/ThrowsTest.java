import java.lang.reflect.InvocationTargetException;
import java.lang.reflect.Method;
import java.util.ArrayList;
import java.util.Arrays;
import java.util.LinkedHashSet;
import java.util.List;
import java.util.Set;
import java.util.TreeSet;

/**
 * "A method that throws an exception changes nothing. If several exceptions apply, the one that is named first is
 * thrown; exceptions go ahead of -9.": each method with each mixture of arguments that are just let and just not,
 * on CARDS with RANGES and without, and on an empty, a full and a PILE in between.
 */
public final class ThrowsTest {
    private static final Check CHECK = new Check("ThrowsTest");
    private static final int MIN = Integer.MIN_VALUE;
    private static final int MAX = Integer.MAX_VALUE;

    /**
     * Each method with its arguments: n NUMBER, c CARD, C CARD that needs a RANGE, a digit what (0 to that), m many,
     * p place, v number of 32 bits, b boolean.
     */
    private static final String[] METHODS = {
        "set nvv", "setSmall nv", "setEnd n3", "move nv", "copy nn", "ofNumber nb", "numberText n", "order nn",
        "two cnn", "three cnnn", "four cnnnn", "twoSmall cvv", "threeSmall cvvv", "fourSmall cvvvv", "again cC",
        "same cC", "outer cC", "inner cC", "span cCC", "shift Cv", "drop c", "isThere c", "isFixed C", "isSmall C",
        "end C3b", "take C3n", "cardText c", "isValid Cn", "isValidSmall Cn", "whichValid Cv", "around C3b",
        "count Cvm", "who n1", "which 2", "areSame CC", "isSameAs C4", "likes C", "lay C", "seek Cb", "howOften C",
        "lift C", "pick pc", "turn ", "sweep ", "pile n5", "house 4", "knock ", "isSound ", "digest "};

    private static final Integer[] NUMBERS = {MIN, -1, 0, 7, 8, MAX};
    private static final Integer[] CARDS = {MIN, -1, 0, 5, 6, MAX};
    private static final Integer[] MANY = {MIN, -1, 0, 1, 60, 61, MAX};
    private static final Integer[] PLACES = {MIN, -1, 0, 1, 10, 11, 12, MAX};
    private static final Integer[] VALUES = {MIN, 0, MAX};
    private static final Boolean[] BOTH = {false, true};

    private final Method method;
    private final String kinds;
    private final Scene scene;
    private final String before;
    private final Set<String> seen;

    private ThrowsTest(Method method, String kinds, Scene scene, Set<String> seen) {
        this.method = method;
        this.kinds = kinds;
        this.scene = scene;
        this.before = Scene.told(scene.make());
        this.seen = seen;
    }

    public static void main(String[] args) throws Exception {
        CHECK.due("methods that are called", METHODS.length, 49);
        for (String line : METHODS) {
            String[] parts = line.split(" ", -1);
            Method method = methodOf(parts[0]);
            Set<String> seen = new TreeSet<>();
            for (Scene scene : Scene.values()) {
                new ThrowsTest(method, parts[1], scene, seen).callWithAll(new ArrayList<>());
            }
            CHECK.due("exceptions of " + parts[0] + " that were seen", seen, declared(method));
        }
        CHECK.end();
    }

    private static Method methodOf(String name) {
        for (Method method : Rangecard.class.getDeclaredMethods()) {
            if (method.getName().equals(name)) {
                return method;
            }
        }
        throw new IllegalStateException("no method " + name);
    }

    private static Set<String> declared(Method method) {
        Set<String> names = new TreeSet<>();
        for (Class<?> type : method.getExceptionTypes()) {
            names.add(type.getSimpleName());
        }
        return names;
    }

    private void callWithAll(List<Object> values) throws Exception {
        if (values.size() == kinds.length()) {
            call(values);
            return;
        }
        for (Object value : drawn(kinds.charAt(values.size()))) {
            List<Object> more = new ArrayList<>(values);
            more.add(value);
            callWithAll(more);
        }
    }

    private static Object[] drawn(char kind) {
        switch (kind) {
            case 'n':
                return NUMBERS;
            case 'c':
            case 'C':
                return CARDS;
            case 'm':
                return MANY;
            case 'p':
                return PLACES;
            case 'v':
                return VALUES;
            case 'b':
                return BOTH;
            default:
                int most = kind - '0';
                return new LinkedHashSet<>(Arrays.asList(MIN, -1, 0, most, most + 1, MAX)).toArray();
        }
    }

    private void call(List<Object> values) throws Exception {
        String call = scene + " " + method.getName() + values;
        String due = due(values);
        Rangecard x = scene.make();
        CHECK.due(call, thrown(x, values), due);
        if (!due.isEmpty()) {
            seen.add(due);
            CHECK.due(call + " changes nothing", Scene.told(x), before);
        }
    }

    private String thrown(Rangecard x, List<Object> values) throws Exception {
        try {
            method.invoke(x, values.toArray());
            return "";
        } catch (InvocationTargetException e) {
            return e.getCause().getClass().getSimpleName();
        }
    }

    /** By the order in which the document names them. */
    private String due(List<Object> values) {
        boolean isIndexBad = false;
        boolean isArgumentBad = false;
        boolean isRangeMissing = false;
        for (int i = 0; i < values.size(); i++) {
            char kind = kinds.charAt(i);
            if (kind == 'v' || kind == 'b') {
                continue;
            }
            int value = (Integer) values.get(i);
            isIndexBad |= isBadIndex(kind, value);
            isArgumentBad |= kind == 'm' && (value < 1 || value > 60);
            isArgumentBad |= Character.isDigit(kind) && (value < 0 || value > kind - '0');
            isRangeMissing |= kind == 'C' && !hasRange(value);
        }
        return isIndexBad ? "IndexOutOfBoundsException" : isArgumentBad ? "IllegalArgumentException"
            : isRangeMissing ? "IllegalStateException" : "";
    }

    private boolean isBadIndex(char kind, int value) {
        int bound = kind == 'n' ? 8 : kind == 'c' || kind == 'C' ? 6 : kind == 'p' ? Scene.LAID[scene.ordinal()] : MAX;
        return bound != MAX && (value < 0 || value >= bound);
    }

    private boolean hasRange(int card) {
        return scene == Scene.FULL || scene == Scene.FIRST_CARD && card == 0 || scene == Scene.LAST_CARD && card == 5;
    }
}
