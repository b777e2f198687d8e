import java.lang.reflect.Constructor;
import java.lang.reflect.Field;
import java.lang.reflect.Method;
import java.lang.reflect.Modifier;
import java.nio.charset.StandardCharsets;
import java.nio.file.Files;
import java.nio.file.Path;
import java.util.ArrayList;
import java.util.Collections;
import java.util.List;

/** The class has the face of the document, and what LANGUAGE.md says of names and static fields holds. */
public final class FaceTest {
    private static final Check CHECK = new Check("FaceTest");

    public static void main(String[] args) throws Exception {
        faceIsTheDocuments();
        constructorIsTheDocuments();
        nothingElseCanBeReached();
        staticFieldsAreFinal();
        sourceKeepsToTheRules();
        CHECK.end();
    }

    private static void faceIsTheDocuments() throws Exception {
        List<String> want = new ArrayList<>();
        for (String line : Files.readAllLines(Path.of("../shared/DOC.md"))) {
            if (line.startsWith("    public ") && !line.contains("public Rangecard()")) {
                want.add(withoutNames(line.strip()));
            }
        }
        List<String> got = new ArrayList<>();
        for (Method method : Rangecard.class.getDeclaredMethods()) {
            if (!Modifier.isPrivate(method.getModifiers())) {
                got.add(signature(method));
            }
        }
        Collections.sort(want);
        Collections.sort(got);
        CHECK.due("the number of methods", got.size(), 49);
        CHECK.due("the methods", got, want);
    }

    private static String withoutNames(String line) {
        return line.replaceAll("(int|boolean) [A-Za-z]+([,)])", "$1$2").replace(";", "");
    }

    private static String signature(Method method) {
        StringBuilder text = new StringBuilder(Modifier.toString(method.getModifiers()));
        text.append(' ').append(method.getReturnType().getSimpleName()).append(' ').append(method.getName());
        text.append('(').append(names(method.getParameterTypes())).append(')');
        if (method.getExceptionTypes().length > 0) {
            text.append(" throws ").append(names(method.getExceptionTypes()));
        }
        return text.toString();
    }

    private static String names(Class<?>[] types) {
        List<String> all = new ArrayList<>();
        for (Class<?> type : types) {
            all.add(type.getSimpleName());
        }
        return String.join(", ", all);
    }

    private static void constructorIsTheDocuments() {
        CHECK.due("public final", Modifier.toString(Rangecard.class.getModifiers()), "public final");
        Constructor<?>[] all = Rangecard.class.getDeclaredConstructors();
        CHECK.due("one constructor", all.length, 1);
        CHECK.due("it is public", Modifier.isPublic(all[0].getModifiers()), true);
        CHECK.due("it takes nothing", all[0].getParameterCount(), 0);
    }

    private static void nothingElseCanBeReached() {
        List<String> shown = new ArrayList<>();
        for (Method method : Rangecard.class.getDeclaredMethods()) {
            if (!Modifier.isPrivate(method.getModifiers())) {
                shown.add(method.getName());
            }
        }
        for (Method method : Rangecard.class.getDeclaredMethods()) {
            if (Modifier.isPrivate(method.getModifiers())) {
                CHECK.due(method.getName() + " is also a public name", shown.contains(method.getName()), false);
            }
        }
        for (Field field : Rangecard.class.getDeclaredFields()) {
            CHECK.due(field.getName() + " is private", Modifier.isPrivate(field.getModifiers()), true);
        }
        for (Class<?> inside : Rangecard.class.getDeclaredClasses()) {
            CHECK.due(inside + " is static", Modifier.isStatic(inside.getModifiers()), true);
            CHECK.due(inside + " is public", Modifier.isPublic(inside.getModifiers()), false);
        }
    }

    private static void staticFieldsAreFinal() {
        for (Field field : Rangecard.class.getDeclaredFields()) {
            if (Modifier.isStatic(field.getModifiers())) {
                CHECK.due(field.getName() + " is final", Modifier.isFinal(field.getModifiers()), true);
            }
        }
    }

    private static void sourceKeepsToTheRules() throws Exception {
        String source = Files.readString(Path.of("src/main/java/Rangecard.java"), StandardCharsets.UTF_8);
        String[] banned = {"import ", "package ", "catch", "finally", "synchronized", "assert ", "instanceof",
            "->", "::", "Exact", ".equals(", "hashCode", "System.", "static {", "while (true)"};
        for (String word : banned) {
            CHECK.due("the source has " + word, source.contains(word), false);
        }
        CHECK.due("signs are 1 to 127", source.chars().allMatch(c -> c >= 1 && c <= 127), true);
    }
}
