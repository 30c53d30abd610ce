import java.lang.reflect.InvocationTargetException;
import java.lang.reflect.Method;
import java.lang.reflect.Modifier;
import java.util.Arrays;
import java.util.NoSuchElementException;
import java.util.Set;
import java.util.TreeSet;

/** For each number that a call takes: the least and the greatest one are taken, the next ones beyond are not. */
public final class RangesTest {
    private static final Check CHECK = new Check();
    private static final Class<? extends RuntimeException> PLACE = IndexOutOfBoundsException.class;
    private static final Class<? extends RuntimeException> ARGUMENT = IllegalArgumentException.class;
    private static final Class<? extends RuntimeException> ELEMENT = NoSuchElementException.class;
    private static final Set<String> SEEN = new TreeSet<>();

    private static boolean isLost;

    public static void main(String[] args) throws Exception {
        testSamples();
        testLossless();
        testLines();
        testBooks();
        testCoding();
        testLosses();
        testLateOnes();
        testLoudness();
        testAllSeen();
        CHECK.end();
    }

    /** Two blocks, of 33 samples and of 40, three levels, two frames, seven samples in one edit. */
    private static Maskingtone house() {
        Maskingtone house = new Maskingtone();
        house.shape(0, 'n', 900, 5, 33);
        house.shape(1, 't', 900, 5, 40);
        house.keep(3, 10);
        house.code();
        if (isLost) {
            house.lose(0);
            house.lose(1);
        }
        return house;
    }

    private static Method method(String name) {
        for (Method method : Maskingtone.class.getDeclaredMethods()) {
            if (method.getName().equals(name) && Modifier.isPublic(method.getModifiers())) {
                return method;
            }
        }
        throw new IllegalArgumentException(name);
    }

    private static Class<?> thrown(Method method, Object... given) throws Exception {
        try {
            method.invoke(house(), given);
            return null;
        } catch (InvocationTargetException e) {
            return e.getCause().getClass();
        }
    }

    private static void due(String name, Object[] given, int place, int number, Class<?> want) throws Exception {
        Object[] numbers = given.clone();
        numbers[place] = number;
        Class<?> got = thrown(method(name), numbers);
        CHECK.due(name + Arrays.toString(numbers) + " throws", String.valueOf(got), String.valueOf(want));
    }

    /** The argument at the place goes from the least to the greatest number; the others are as given. */
    private static void range(String name, int place, int least, int greatest, Class<?> kind, Object... given) throws Exception {
        String argument = Document.arguments(name)[place];
        SEEN.add(name + " " + argument);
        int[] told = Document.range(name, argument);
        if (told != null) {
            CHECK.due("the document's range of " + argument + " of " + name, Arrays.toString(told), Arrays.toString(new int[] {least, greatest}));
        }
        due(name, given, place, least, null);
        due(name, given, place, greatest, null);
        due(name, given, place, least - 1, kind);
        due(name, given, place, greatest + 1, kind);
        due(name, given, place, Integer.MIN_VALUE, kind);
        due(name, given, place, Integer.MAX_VALUE, kind);
    }

    private static void testSamples() throws Exception {
        range("shape", 0, 0, 1, PLACE, 0, 'q', 1, 2, 1);
        range("shape", 2, 0, 16000, ARGUMENT, 0, 't', 1, 2, 64);
        range("shape", 3, 2, 64, ARGUMENT, 0, 'i', 1, 2, 64);
        range("shape", 4, 1, 64, ARGUMENT, 0, 'n', 1, 2, 1);
        range("add", 0, 0, 1, PLACE, 0, 0, 0);
        range("add", 1, 0, 64, ARGUMENT, 0, 0, 1);
        range("add", 2, -100, 100, ARGUMENT, 0, 0, 0);
        range("setSample", 0, 0, 1, PLACE, 0, 0, 0);
        range("setSample", 1, 0, 32, PLACE, 0, 0, 0);
        range("setSample", 1, 0, 39, PLACE, 1, 0, 0);
        range("setSample", 2, -32768, 32767, ARGUMENT, 0, 0, 0);
        range("samples", 0, 0, 1, PLACE, 0);
        range("sample", 0, 0, 1, PLACE, 0, 0);
        range("sample", 1, 0, 63, PLACE, 0, 0);
    }

    private static void testLossless() throws Exception {
        for (String name : new String[] {"order", "parameter"}) {
            range(name, 0, 0, 1, PLACE, 0, 0, false);
            range(name, 1, 0, 1, PLACE, 0, 0, true);
        }
        range("residual", 0, 0, 1, PLACE, 0, 0, false, 0);
        range("residual", 1, 0, 1, PLACE, 0, 0, true, 0);
        range("residual", 3, 0, 31, PLACE, 0, 0, false, 0);
        range("isStereo", 0, 0, 1, PLACE, 0);
        range("pairBits", 0, 0, 1, PLACE, 0);
        range("bitOf", 0, 0, 1, PLACE, 0, 0);
        range("bitOf", 1, 0, house().pairBits(1) - 1, ELEMENT, 1, 0);
        range("returned", 0, 0, 1, PLACE, 0, 0);
        range("returned", 1, 0, 63, PLACE, 0, 0);
    }

    private static void testLines() throws Exception {
        range("setLevels", 0, 1, 4, ARGUMENT, 1);
        for (String name : new String[] {"line", "lineAnew"}) {
            range(name, 0, 0, 1, PLACE, 0, 0);
            range(name, 1, 0, 63, PLACE, 0, 0);
        }
        for (String name : new String[] {"strength", "mask"}) {
            range(name, 0, 0, 1, PLACE, 0, 0, 0);
            range(name, 1, 0, 1, PLACE, 0, 0, 0);
            range(name, 2, 0, 3, ARGUMENT, 0, 0, 0);
        }
        range("setQuiet", 0, 0, 4, ARGUMENT, 0, 0);
        range("setQuiet", 1, 0, 1000, ARGUMENT, 0, 0);
    }

    private static void testBooks() throws Exception {
        range("setLength", 0, 0, 2, PLACE, 0, 0, 8);
        range("setLength", 1, 0, 7, ARGUMENT, 0, 0, 8);
        range("setLength", 2, 1, 8, ARGUMENT, 0, 0, 1);
        for (String name : new String[] {"codeOf", "lengthOf"}) {
            range(name, 0, 0, 2, PLACE, 0, 0);
            range(name, 1, 0, 7, ARGUMENT, 0, 0);
        }
    }

    private static void testCoding() throws Exception {
        range("setRate", 0, 100, 4000, ARGUMENT, 100, 0);
        range("setRate", 1, 0, 8000, ARGUMENT, 100, 0);
        for (String name : new String[] {"frameBits", "sections", "sectionBits", "sectionBitsAnew", "reservoir"}) {
            range(name, 0, 0, 1, PLACE, 0);
        }
        range("frameBit", 0, 0, 1, PLACE, 0, 0);
        range("frameBit", 1, 0, house().frameBits(1) - 1, ELEMENT, 1, 0);
        for (String name : new String[] {"step", "noise", "noiseAnew", "bookOf"}) {
            range(name, 0, 0, 1, PLACE, 0, 0, 0);
            range(name, 1, 0, 1, PLACE, 0, 0, 0);
            range(name, 2, 0, 3, ARGUMENT, 0, 0, 0);
        }
    }

    private static void testLosses() throws Exception {
        range("lose", 0, 0, 1, PLACE, 0);
        range("turn", 0, 0, 1, PLACE, 0, 0);
        range("turn", 1, 0, house().frameBits(1) - 1, ELEMENT, 1, 0);
        range("repair", 0, 0, 1, PLACE, 0);
        range("decoded", 0, 0, 1, PLACE, 0, 0);
        range("decoded", 1, 0, 63, PLACE, 0, 0);
        range("preroll", 0, 0, 1, PLACE, 0);
        range("error", 0, 0, 1, PLACE, 0);
        isLost = true;
        range("fault", 0, 0, 1, PLACE, 0, 0);
        range("fault", 1, 0, 1, ELEMENT, 0, 0);
        isLost = false;
    }

    private static void testLateOnes() throws Exception {
        range("arrive", 0, 0, 1, PLACE, 0, 0);
        range("arrive", 1, 0, 1000, ARGUMENT, 0, 0);
        range("played", 0, 0, 100, ARGUMENT, 0, 0);
        range("played", 1, 0, 2000, ARGUMENT, 0, 0);
        range("keep", 0, 0, 63, ARGUMENT, 0, 64);
        range("keep", 0, 0, 4, ARGUMENT, 0, 5);
        range("keep", 1, 1, 64, ARGUMENT, 0, 1);
        range("keep", 1, 64, 64, ARGUMENT, 63, 64);
        range("edited", 0, 0, 1, PLACE, 0, 0);
        range("edited", 1, 0, 6, ELEMENT, 0, 0);
    }

    private static void testLoudness() throws Exception {
        for (String name : new String[] {"peak", "truePeak", "loudness"}) {
            range(name, 0, 0, 1, PLACE, 0);
        }
        range("limit", 0, 1, 32767, ARGUMENT, 1);
    }

    /** No number of any call is left out. */
    private static void testAllSeen() {
        for (Method method : Maskingtone.class.getDeclaredMethods()) {
            if (Modifier.isPublic(method.getModifiers())) {
                String[] arguments = Document.arguments(method.getName());
                Class<?>[] types = method.getParameterTypes();
                CHECK.due("arguments of " + method.getName(), types.length, arguments.length);
                for (int i = 0; i < types.length; i++) {
                    boolean isSeen = types[i] != int.class || SEEN.contains(method.getName() + " " + arguments[i]);
                    CHECK.due(arguments[i] + " of " + method.getName() + " is looked at", isSeen, true);
                }
            }
        }
    }
}
