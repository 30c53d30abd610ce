import java.lang.reflect.Constructor;
import java.lang.reflect.Field;
import java.lang.reflect.Method;
import java.lang.reflect.Modifier;
import java.nio.file.Files;
import java.nio.file.Path;
import java.util.ArrayList;
import java.util.List;
import java.util.Set;
import java.util.TreeSet;

/** The face of the class, as the document writes it, and nothing else that can be seen from outside. */
public final class FaceTest {
    private static final Check CHECK = new Check();
    private static final Path DOCUMENT = Path.of("../shared/DOC.md");

    public static void main(String[] args) throws Exception {
        testFace();
        testMembers();
        CHECK.end();
    }

    private static List<String> documentFace() throws Exception {
        List<String> lines = new ArrayList<>();
        boolean isWithin = false;
        for (String line : Files.readAllLines(DOCUMENT)) {
            isWithin |= line.startsWith("public final class Maskingtone");
            if (isWithin && line.startsWith("}")) {
                return lines;
            }
            if (isWithin && line.contains("(")) {
                lines.add(line.trim());
            }
        }
        throw new IllegalStateException("no face in the document");
    }

    private static void testFace() throws Exception {
        Set<String> want = new TreeSet<>();
        for (String line : documentFace()) {
            want.add(line.replaceAll("(int|char|boolean) [a-zA-Z]+([,)])", "$1$2").replace("java.util.", ""));
        }
        Set<String> got = new TreeSet<>();
        for (Method method : Maskingtone.class.getDeclaredMethods()) {
            if (!Modifier.isPrivate(method.getModifiers()) && !method.isSynthetic()) {
                got.add("public " + method.getReturnType().getName() + " " + method.getName() + parameters(method.getParameterTypes(), ", ")
                    + thrown(method) + ";");
                CHECK.due(method + " is public and of the object", method.getModifiers(), Modifier.PUBLIC);
            }
        }
        for (Constructor<?> constructor : Maskingtone.class.getDeclaredConstructors()) {
            got.add("public " + constructor.getName() + parameters(constructor.getParameterTypes(), ", ") + ";");
        }
        CHECK.due("the face", got, want);
        CHECK.due("how many", got.size(), 59);
        CHECK.due("public and final", Maskingtone.class.getModifiers(), Modifier.PUBLIC | Modifier.FINAL);
    }

    private static String parameters(Class<?>[] types, String between) {
        List<String> names = new ArrayList<>();
        for (Class<?> type : types) {
            names.add(type.getName());
        }
        return "(" + String.join(between, names) + ")";
    }

    private static String thrown(Method method) {
        List<String> names = new ArrayList<>();
        for (Class<?> type : method.getExceptionTypes()) {
            names.add(type.getSimpleName());
        }
        return names.isEmpty() ? "" : " throws " + String.join(", ", names);
    }

    private static void testMembers() {
        for (Field field : Maskingtone.class.getDeclaredFields()) {
            CHECK.due(field + " is private", Modifier.isPrivate(field.getModifiers()), true);
        }
        for (Class<?> each : Maskingtone.class.getDeclaredClasses()) {
            int seen = each.getModifiers();
            CHECK.due(each + " is static, and not seen from outside", Modifier.isStatic(seen) && !Modifier.isPublic(seen) && !Modifier.isProtected(seen), true);
        }
    }
}
