import java.lang.reflect.InvocationTargetException;
import java.lang.reflect.Method;
import java.lang.reflect.Modifier;
import java.nio.file.Files;
import java.nio.file.Path;
import java.util.Arrays;
import java.util.Set;
import java.util.TreeSet;
import java.util.regex.Matcher;
import java.util.regex.Pattern;

/** The calls in README.md, in their order: each one answers what stands behind it, and each one of the face is shown. */
public final class ReadmeTest {
    private static final Check CHECK = new Check();
    private static final String BEGIN = "Maskingtone house = new Maskingtone();";
    /** A call, and behind it its answer or its exception, up to a colon. */
    private static final Pattern SHOWN = Pattern.compile("house\\.(\\w+)\\((.*)\\); +// ([^:]+)(: .*)?");
    private static final int MOST_CALLS = 512;

    private final Set<String> shown = new TreeSet<>();
    private Maskingtone house;
    private int calls;

    public static void main(String[] args) throws Exception {
        new ReadmeTest().go();
        CHECK.end();
    }

    private void go() throws Exception {
        boolean isCode = false;
        for (String line : Files.readAllLines(Path.of("README.md"))) {
            if (line.startsWith("```")) {
                isCode = line.equals("```java");
            } else if (isCode && line.startsWith(BEGIN)) {
                house = new Maskingtone();
                calls = 0;
            } else if (isCode && !line.isBlank()) {
                look(line);
            }
        }
        CHECK.due("the calls that are shown", shown, face());
    }

    private void look(String line) throws Exception {
        Matcher matcher = SHOWN.matcher(line);
        boolean isCall = matcher.matches();
        CHECK.due("a call with its answer: " + line, isCall, true);
        if (isCall && house != null) {
            calls++;
            shown.add(matcher.group(1));
            CHECK.due("README.md: " + line, answer(matcher.group(1), matcher.group(2)), matcher.group(3).trim());
            CHECK.due("as many calls as an object is used for", calls <= MOST_CALLS, true);
        }
    }

    private String answer(String name, String given) throws Exception {
        Object[] arguments = given.isEmpty() ? new Object[0] : Arrays.stream(given.split(", ")).map(ReadmeTest::argument).toArray();
        Method method = Arrays.stream(Maskingtone.class.getMethods()).filter(each -> each.getName().equals(name)).findFirst().orElseThrow();
        try {
            Object answer = method.invoke(house, arguments);
            return answer instanceof Character ? "'" + answer + "'" : String.valueOf(answer);
        } catch (InvocationTargetException e) {
            return "throws " + e.getCause().getClass().getSimpleName();
        }
    }

    private static Object argument(String text) {
        if (text.startsWith("'")) {
            return text.charAt(1);
        }
        return text.equals("true") || text.equals("false") ? (Object) Boolean.valueOf(text) : (Object) Integer.valueOf(text);
    }

    private static Set<String> face() {
        Set<String> names = new TreeSet<>();
        for (Method method : Maskingtone.class.getDeclaredMethods()) {
            if (Modifier.isPublic(method.getModifiers())) {
                names.add(method.getName());
            }
        }
        return names;
    }
}
