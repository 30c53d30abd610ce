import java.lang.reflect.Constructor;
import java.lang.reflect.Field;
import java.lang.reflect.Method;
import java.lang.reflect.Modifier;
import java.nio.charset.StandardCharsets;
import java.nio.file.Files;
import java.nio.file.Path;
import java.util.ArrayList;
import java.util.Arrays;
import java.util.HashSet;
import java.util.List;
import java.util.Set;
import java.util.TreeSet;
import java.util.regex.Matcher;
import java.util.regex.Pattern;

/** The face of the class, as the document writes it, and the rules of the language that can be seen from outside. */
public final class FaceTest {
    private static final Check CHECK = new Check();
    private static final Path PROGRAM = Path.of("src/main/java/Maskingtone.java");
    private static final Path DOCUMENT = Path.of("../shared/DOC.md");

    public static void main(String[] args) throws Exception {
        String program = Files.readString(PROGRAM, StandardCharsets.ISO_8859_1);
        testFace();
        testMembers();
        testClasses(program);
        testWords(withoutTexts(program));
        testLengths(program);
        CHECK.end();
    }

    private static List<String> documentFace() throws Exception {
        List<String> lines = new ArrayList<>();
        boolean isWithin = false;
        for (String line : Files.readAllLines(DOCUMENT)) {
            isWithin |= line.startsWith("public final class Maskingtone");
            if (isWithin && line.startsWith("}")) {
                return lines;
            }
            if (isWithin && line.contains("(")) {
                lines.add(line.trim());
            }
        }
        throw new IllegalStateException("no face in the document");
    }

    private static void testFace() throws Exception {
        Set<String> want = new TreeSet<>();
        for (String line : documentFace()) {
            want.add(line.replaceAll("(int|char|boolean) [a-zA-Z]+([,)])", "$1$2").replace("java.util.", ""));
        }
        Set<String> got = new TreeSet<>();
        for (Method method : Maskingtone.class.getDeclaredMethods()) {
            if (!Modifier.isPrivate(method.getModifiers()) && !method.isSynthetic()) {
                got.add("public " + method.getReturnType().getName() + " " + method.getName() + parameters(method.getParameterTypes(), ", ")
                    + thrown(method) + ";");
                CHECK.due(method + " is public and of the object", method.getModifiers(), Modifier.PUBLIC);
            }
        }
        for (Constructor<?> constructor : Maskingtone.class.getDeclaredConstructors()) {
            got.add("public " + constructor.getName() + parameters(constructor.getParameterTypes(), ", ") + ";");
        }
        CHECK.due("the face", got, want);
        CHECK.due("how many", got.size(), 59);
        CHECK.due("public and final", Maskingtone.class.getModifiers(), Modifier.PUBLIC | Modifier.FINAL);
    }

    private static String parameters(Class<?>[] types, String between) {
        List<String> names = new ArrayList<>();
        for (Class<?> type : types) {
            names.add(type.getName());
        }
        return "(" + String.join(between, names) + ")";
    }

    private static String thrown(Method method) {
        List<String> names = new ArrayList<>();
        for (Class<?> type : method.getExceptionTypes()) {
            names.add(type.getSimpleName());
        }
        return names.isEmpty() ? "" : " throws " + String.join(", ", names);
    }

    private static void testMembers() {
        Set<String> face = new HashSet<>();
        for (Method method : Maskingtone.class.getDeclaredMethods()) {
            if (Modifier.isPublic(method.getModifiers())) {
                face.add(method.getName());
            }
        }
        List<Class<?>> all = new ArrayList<>(Arrays.asList(Maskingtone.class.getDeclaredClasses()));
        CHECK.due("some twelve classes", all.size() + 1 <= 12, true);
        for (Class<?> each : all) {
            CHECK.due(each + " is static and private", Modifier.isStatic(each.getModifiers()) && Modifier.isPrivate(each.getModifiers()), true);
            for (Method method : each.getDeclaredMethods()) {
                CHECK.due(method + " does not bear the name of a public one", face.contains(method.getName()), false);
                CHECK.due(method + " is private", Modifier.isPrivate(method.getModifiers()), true);
            }
        }
        all.add(Maskingtone.class);
        for (Class<?> each : all) {
            int fields = 0;
            for (Field field : each.getDeclaredFields()) {
                CHECK.due(field + " is private", Modifier.isPrivate(field.getModifiers()), true);
                if (Modifier.isStatic(field.getModifiers())) {
                    CHECK.due(field + " is final", Modifier.isFinal(field.getModifiers()), true);
                } else {
                    fields++;
                }
            }
            CHECK.due(each + " has some twenty fields", fields <= 20, true);
            for (Method method : each.getDeclaredMethods()) {
                CHECK.due(method + " takes seven at most", method.getParameterCount() <= 7, true);
                CHECK.due(method + " is none of a lambda", method.isSynthetic(), false);
            }
        }
    }

    private static void testClasses(String program) {
        CHECK.due("signs are 1 to 127", program.chars().allMatch(sign -> sign >= 1 && sign <= 127), true);
        CHECK.due("no package line", Pattern.compile("(?m)^package ").matcher(program).find(), false);
        Matcher imports = Pattern.compile("(?m)^import (.*);").matcher(program);
        while (imports.find()) {
            CHECK.due("import", imports.group(1), "java.util.NoSuchElementException");
        }
    }

    private static String withoutTexts(String program) {
        return program.replaceAll("(?s)/\\*.*?\\*/", "").replaceAll("//[^\n]*", "").replaceAll("\"[^\"\n]*\"", "T").replaceAll("'[^'\n]+'", "C");
    }

    private static void testWords(String code) {
        String[] none = {"try", "catch", "finally", "synchronized", "assert", "->", "::", "Exact", "System.out", "new Random", "Thread",
            "nanoTime", "currentTimeMillis", "hashCode", "toString", "getClass", "instanceof", "native", "volatile", "static {", "protected", "T +", "+ T"};
        for (String word : none) {
            CHECK.due("has " + word, code.contains(word), false);
        }
        Matcher thrown = Pattern.compile("throw ([^;]*);").matcher(code);
        while (thrown.find()) {
            String what = thrown.group(1);
            CHECK.due("throw " + what, what.matches(
                "new (IllegalState|IllegalArgument|IndexOutOfBounds|Arithmetic|UnsupportedOperation|NoSuchElement)Exception\\(T?\\)"), true);
        }
        Matcher library = Pattern.compile("\\b(Math|System|Arrays|Integer|Long|String|StringBuilder|List|ArrayList)\\.([a-zA-Z_]+)").matcher(code);
        Set<String> allowed = Set.of("Math.max", "Math.min", "Math.abs", "System.arraycopy", "Integer.MAX_VALUE");
        while (library.find()) {
            CHECK.due("uses " + library.group(), allowed.contains(library.group()), true);
        }
        // arrays and objects are made with the object alone, so that no call takes more of the room
        Matcher made = Pattern.compile("(?m)^(.*)\\bnew (?!\\w+Exception)(.*)$").matcher(code);
        while (made.find()) {
            String line = made.group().trim();
            boolean isField = line.startsWith("private ") || line.startsWith("channels[i] =") || line.startsWith("pairs[i] =") || line.startsWith("allFrames[i] =");
            CHECK.due("made with the object: " + line, isField, true);
        }
    }

    /** A method ends at the closing brace that stands as far in as it begins. */
    private static void testLengths(String program) {
        String[] lines = program.split("\n");
        Pattern begin = Pattern.compile("^( {4}| {8})(public|private) (?!static final|final|class)[^=;]*\\{$");
        for (int i = 0; i < lines.length; i++) {
            Matcher matcher = begin.matcher(lines[i]);
            if (matcher.matches() && lines[i].contains("(")) {
                int end = i;
                while (!lines[end].equals(matcher.group(1) + "}")) {
                    end++;
                }
                CHECK.due("lines of " + lines[i].trim(), end - i + 1 <= 60, true);
            }
        }
    }
}
