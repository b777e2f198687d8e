import java.lang.reflect.InvocationTargetException;
import java.lang.reflect.Method;
import java.nio.file.Files;
import java.nio.file.Path;
import java.util.ArrayList;
import java.util.List;
import java.util.Set;
import java.util.TreeSet;
import java.util.regex.Matcher;
import java.util.regex.Pattern;

/** README.md holds: each line of its code answers what stands behind it, and its tables name the whole face. */
public final class ReadmeTest {
    private static final Check CHECK = new Check("ReadmeTest");
    private static final String NEW = "Rangecard x = new Rangecard();";
    private static final Pattern LINE = Pattern.compile("x\\.(\\w+)\\(([^)]*)\\); +// (\"[^\"]*\"|[^:]+)(: .*)?");
    private static final Pattern ROW = Pattern.compile("\\| `(\\w+)\\(([^)]*)\\)` \\|[^|]*\\| ?([a-z, ]*)\\|");

    public static void main(String[] args) throws Exception {
        List<String> lines = Files.readAllLines(Path.of("README.md"));
        codeAnswersWhatItSays(lines);
        tablesNameTheWholeFace(lines);
        CHECK.end();
    }

    private static void codeAnswersWhatItSays(List<String> lines) throws Exception {
        Rangecard x = null;
        boolean isCode = false;
        int calls = 0;
        for (String line : lines) {
            if (line.startsWith("```")) {
                isCode = !isCode;
            } else if (isCode && line.equals(NEW)) {
                x = new Rangecard();
            } else if (isCode && !line.isEmpty()) {
                Matcher parts = LINE.matcher(line);
                CHECK.due(line + " is a call with its answer", parts.matches(), true);
                CHECK.due(line, told(x, methodOf(parts.group(1)), parts.group(2)), parts.group(3));
                calls++;
            }
        }
        CHECK.due("there are calls", calls > 0, true);
    }

    private static String told(Rangecard x, Method method, String arguments) throws Exception {
        try {
            Object answer = method.invoke(x, values(arguments));
            return answer instanceof String ? "\"" + answer + "\"" : String.valueOf(answer);
        } catch (InvocationTargetException e) {
            return "throws " + e.getCause().getClass().getSimpleName();
        }
    }

    private static Object[] values(String arguments) {
        List<Object> values = new ArrayList<>();
        for (String one : namesIn(arguments)) {
            boolean isWhether = one.equals("true") || one.equals("false");
            values.add(isWhether ? (Object) Boolean.valueOf(one) : Integer.valueOf(one));
        }
        return values.toArray();
    }

    private static List<String> namesIn(String list) {
        return list.isBlank() ? List.of() : List.of(list.strip().split(", "));
    }

    private static void tablesNameTheWholeFace(List<String> lines) throws Exception {
        Set<String> named = new TreeSet<>();
        for (String line : lines) {
            Matcher row = ROW.matcher(line);
            if (!row.matches()) {
                CHECK.due(line + " is no row of a call", line.startsWith("| `"), false);
                continue;
            }
            Method method = methodOf(row.group(1));
            named.add(method.getName());
            CHECK.due(line + ": what it takes", namesIn(row.group(2)), namesInDocument(method.getName()));
            CHECK.due(line + ": its exceptions", namesIn(row.group(3)), exceptionsOf(method));
        }
        Set<String> want = new TreeSet<>();
        for (Method method : Rangecard.class.getMethods()) {
            if (method.getDeclaringClass() == Rangecard.class) {
                want.add(method.getName());
            }
        }
        CHECK.due("the methods of the tables", named, want);
    }

    private static List<String> namesInDocument(String method) throws Exception {
        Pattern face = Pattern.compile("    public \\w+ " + method + "\\(([^)]*)\\).*");
        for (String line : Files.readAllLines(Path.of("../shared/DOC.md"))) {
            Matcher signature = face.matcher(line);
            if (signature.matches()) {
                return namesIn(signature.group(1).replaceAll("(int|boolean) ", ""));
            }
        }
        throw new IllegalStateException("no signature of " + method);
    }

    private static List<String> exceptionsOf(Method method) {
        List<String> words = new ArrayList<>();
        for (Class<?> type : method.getExceptionTypes()) {
            words.add(type == IndexOutOfBoundsException.class ? "index"
                : type == IllegalArgumentException.class ? "argument" : "state");
        }
        return words;
    }

    private static Method methodOf(String name) {
        for (Method method : Rangecard.class.getMethods()) {
            if (method.getName().equals(name) && method.getDeclaringClass() == Rangecard.class) {
                return method;
            }
        }
        throw new IllegalStateException("no method " + name);
    }
}
