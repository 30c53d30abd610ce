import java.lang.reflect.Constructor;
import java.lang.reflect.Field;
import java.lang.reflect.Method;
import java.lang.reflect.Modifier;
import java.nio.charset.StandardCharsets;
import java.nio.file.Files;
import java.nio.file.Path;
import java.util.ArrayList;
import java.util.Arrays;
import java.util.HashSet;
import java.util.List;
import java.util.Set;
import java.util.TreeSet;
import java.util.regex.Matcher;
import java.util.regex.Pattern;

/** The face of the class, as the document writes it, and the rules of the language that can be seen from outside. */
public final class FaceTest {
    private static final Check CHECK = new Check();
    private static final Path PROGRAM = Path.of("src/main/java/Maskingtone.java");
    private static final Path DOCUMENT = Path.of("../shared/DOC.md");

    public static void main(String[] args) throws Exception {
        String program = Files.readString(PROGRAM, StandardCharsets.ISO_8859_1);
        testFace();
        testMembers();
        testClasses(program);
        testWords(withoutTexts(program));
        testLengths(program);
        CHECK.end();
    }

    private static List<String> documentFace() throws Exception {
        List<String> lines = new ArrayList<>();
        boolean isWithin = false;
        for (String line : Files.readAllLines(DOCUMENT)) {
            isWithin |= line.startsWith("public final class Maskingtone");
            if (isWithin && line.startsWith("}")) {
                return lines;
            }
            if (isWithin && line.contains("(")) {
                lines.add(line.trim());
            }
        }
        throw new IllegalStateException("no face in the document");
    }

    private static void testFace() throws Exception {
        Set<String> want = new TreeSet<>();
        for (String line : documentFace()) {
            want.add(line.replaceAll("(int|char|boolean) [a-zA-Z]+([,)])", "$1$2").replace("java.util.", ""));
        }
        Set<String> got = new TreeSet<>();
        for (Method method : Maskingtone.class.getDeclaredMethods()) {
            if (!Modifier.isPrivate(method.getModifiers()) && !method.isSynthetic()) {
                got.add("public " + method.getReturnType().getName() + " " + method.getName() + parameters(method.getParameterTypes(), ", ")
                    + thrown(method) + ";");
                CHECK.due(method + " is public and of the object", method.getModifiers(), Modifier.PUBLIC);
            }
        }
        for (Constructor<?> constructor : Maskingtone.class.getDeclaredConstructors()) {
            got.add("public " + constructor.getName() + parameters(constructor.getParameterTypes(), ", ") + ";");
        }
        CHECK.due("the face", got, want);
        CHECK.due("how many", got.size(), 59);
        CHECK.due("public and final", Maskingtone.class.getModifiers(), Modifier.PUBLIC | Modifier.FINAL);
    }

    private static String parameters(Class<?>[] types, String between) {
        List<String> names = new ArrayList<>();
        for (Class<?> type : types) {
            names.add(type.getName());
        }
        return "(" + String.join(between, names) + ")";
    }

    private static String thrown(Method method) {
        List<String> names = new ArrayList<>();
        for (Class<?> type : method.getExceptionTypes()) {
            names.add(type.getSimpleName());
        }
        return names.isEmpty() ? "" : " throws " + String.join(", ", names);
    }

    private static void testMembers() {
        Set<String> face = new HashSet<>();
        for (Method method : Maskingtone.class.getDeclaredMethods()) {
            if (Modifier.isPublic(method.getModifiers())) {
                face.add(method.getName());
            }
        }
        for (Field field : Maskingtone.class.getDeclaredFields()) {
            CHECK.due(field + " is private", Modifier.isPrivate(field.getModifiers()), true);
        }
        List<Class<?>> all = new ArrayList<>(Arrays.asList(Maskingtone.class.getDeclaredClasses()));
        CHECK.due("some twelve classes", all.size() + 1 <= 12, true);
        for (Class<?> each : all) {
            int seen = each.getModifiers();
            CHECK.due(each + " is static, and not seen from outside", Modifier.isStatic(seen) && !Modifier.isPublic(seen) && !Modifier.isProtected(seen), true);
        }
        all.add(Maskingtone.class);
        for (Class<?> each : all) {
            testFields(each);
            for (Method method : each.getDeclaredMethods()) {
                CHECK.due(method + " takes seven at most", method.getParameterCount() <= 7, true);
                boolean bears = Modifier.isPrivate(method.getModifiers()) && face.contains(method.getName());
                CHECK.due(method + " is private and bears the name of a public one", bears, false);
            }
        }
    }

    private static void testFields(Class<?> owner) {
        Set<Class<?>> constants = Set.of(int.class, long.class, boolean.class, char.class, String.class, int[].class, long[].class, char[].class, byte[].class);
        int fields = 0;
        for (Field field : owner.getDeclaredFields()) {
            if (Modifier.isStatic(field.getModifiers())) {
                CHECK.due(field + " is final", Modifier.isFinal(field.getModifiers()), true);
                boolean isKept = owner.isEnum() || field.getType().isArray() && field.getType().getComponentType().isEnum();
                CHECK.due(field + " is a constant", isKept || constants.contains(field.getType()), true);
            } else {
                fields++;
            }
        }
        CHECK.due(owner + " has some twenty fields", fields <= 20, true);
    }

    private static void testClasses(String program) {
        CHECK.due("signs are 1 to 127", program.chars().allMatch(sign -> sign >= 1 && sign <= 127), true);
        CHECK.due("no package line", Pattern.compile("(?m)^package ").matcher(program).find(), false);
        Matcher imports = Pattern.compile("(?m)^import (.*);").matcher(program);
        Set<String> allowed = Set.of("NoSuchElementException", "ArrayList", "List", "Arrays", "Iterator");
        while (imports.find()) {
            String name = imports.group(1);
            CHECK.due("import " + name, name.startsWith("java.util.") && allowed.contains(name.substring(10)), true);
        }
    }

    private static String withoutTexts(String program) {
        return program.replaceAll("(?s)/\\*.*?\\*/", "").replaceAll("//[^\n]*", "").replaceAll("\"[^\"\n]*\"", "T").replaceAll("'[^'\n]+'", "C");
    }

    private static void testWords(String code) {
        String[] none = {"finally", "synchronized", "assert", "->", "::", "Exact(", "System.out", "System.err", "Random", "Thread", "nanoTime",
            "currentTimeMillis", "hashCode", "toString", "getClass", "getMessage", "native", "volatile", "transient", "static {", "protected", "T +", "+ T"};
        for (String word : none) {
            CHECK.due("has " + word, code.contains(word), false);
        }
        Matcher thrown = Pattern.compile("throw ([^;]*);").matcher(code);
        while (thrown.find()) {
            String what = thrown.group(1);
            CHECK.due("throw " + what, what.matches(
                "new (IllegalState|IllegalArgument|IndexOutOfBounds|Arithmetic|UnsupportedOperation|NoSuchElement|Runtime)Exception\\(T?\\)"), true);
        }
        Matcher caught = Pattern.compile("catch \\((\\w+)").matcher(code);
        Set<String> machine = Set.of("ArrayIndexOutOfBoundsException", "NullPointerException", "ClassCastException", "NegativeArraySizeException",
            "ArrayStoreException", "RuntimeException", "Exception", "Throwable", "Error", "IndexOutOfBoundsException", "ArithmeticException");
        while (caught.find()) {
            CHECK.due("catches " + caught.group(1), machine.contains(caught.group(1)), false);
        }
        Matcher library = Pattern.compile("\\b(Math|System|Arrays|Integer|Long|String|StringBuilder|List|ArrayList)\\.([a-zA-Z_]+)").matcher(code);
        while (library.find()) {
            String used = library.group();
            boolean isAllowed = used.startsWith("Math.") || used.startsWith("Integer.") || used.startsWith("Long.")
                || Set.of("System.arraycopy", "Arrays.copyOf", "Arrays.copyOfRange", "Arrays.fill", "List.of").contains(used);
            CHECK.due("uses " + used, isAllowed, true);
        }
    }

    /** A method ends at the closing brace that stands as far in as it begins. */
    private static void testLengths(String program) {
        String[] lines = program.split("\n");
        Pattern begin = Pattern.compile("^( {4}| {8})(public|private) (?!static final|final|class)[^=;]*\\{$");
        for (int i = 0; i < lines.length; i++) {
            Matcher matcher = begin.matcher(lines[i]);
            if (matcher.matches() && lines[i].contains("(")) {
                int end = i;
                while (!lines[end].equals(matcher.group(1) + "}")) {
                    end++;
                }
                CHECK.due("lines of " + lines[i].trim(), end - i + 1 <= 60, true);
            }
        }
    }
}
