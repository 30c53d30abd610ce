import java.lang.reflect.InvocationTargetException;
import java.lang.reflect.Method;
import java.util.ArrayList;
import java.util.Arrays;
import java.util.Comparator;
import java.util.List;
import java.util.Random;

/** All promises: runs of calls picked by a fixed generator, each answer compared with that of the Model. */
public final class RunsTest {
    private static final Check CHECK = new Check();
    private static final int RUNS = 150;
    private static final int CALLS = 320;
    /** What later calls answer is free. */
    private static final int MOST_CALLS = 512;

    public static void main(String[] args) throws Exception {
        int runs = args.length > 0 ? Integer.parseInt(args[0]) : RUNS;
        int first = args.length > 1 ? Integer.parseInt(args[1]) : 1;
        for (int run = first; run < first + runs; run++) {
            new RunsTest(run).go();
        }
        CHECK.end();
    }

    private final int run;
    private final Random random;
    private final Maskingtone house = new Maskingtone();
    private final Model model = new Model();
    private final List<Method> methods = new ArrayList<>();
    private final StringBuilder told = new StringBuilder();
    private int made;

    private RunsTest(int run) {
        this.run = run;
        this.random = new Random(run);
        for (Method method : Maskingtone.class.getDeclaredMethods()) {
            if (java.lang.reflect.Modifier.isPublic(method.getModifiers())) {
                methods.add(method);
            }
        }
        methods.sort(Comparator.comparing(Method::getName));
    }

    private void go() throws Exception {
        begin();
        for (int i = 0; i < CALLS; i++) {
            boolean isRight = i % 16 == 15 && model.frames() > 0 ? tamper(random.nextInt(model.frames())) : ask(pick());
            if (!isRight) {
                return;
            }
        }
    }

    /** Turns some bits and mends the check, so that the frame is read in spite of it. */
    private boolean tamper(int frame) throws Exception {
        call(method("repair"), frame);
        int end = model.frameBits(frame) - 8;
        int bits = 1 + random.nextInt(4);
        for (int i = 0; i < bits; i++) {
            call(method("turn"), frame, 16 + random.nextInt((random.nextBoolean() ? 60 : end) - 16));
        }
        int sum = 0;
        for (int i = 0; i < end; i++) {
            sum += model.frameBit(frame, i) * ((i + 1) % 251);
        }
        for (int i = 0; i < 8; i++) {
            if (model.frameBit(frame, end + i) != ((sum >> 7 - i) & 1)) {
                call(method("turn"), frame, end + i);
            }
        }
        for (int i = 0; i < 4; i++) {
            call(method("noiseAnew"), frame, random.nextInt(2), random.nextInt(5));
            call(method("decoded"), random.nextInt(2), random.nextInt(32 * model.blocks()));
        }
        return call(method("fault"), frame, 1);
    }

    /** Some samples first, so that most calls find something. */
    private void begin() throws Exception {
        int shapes = random.nextInt(5);
        boolean isLikely = random.nextBoolean();
        for (int i = 0; i < shapes; i++) {
            char shape = "qtizn".charAt(random.nextInt(5));
            int amplitude = random.nextInt(random.nextBoolean() ? 300 : 16001);
            int period = 2 + random.nextInt(random.nextBoolean() ? 4 : 63);
            int count = 1 + random.nextInt(64);
            call(method("shape"), i % 2, shape, amplitude, period, count);
            // both channels alike, so that the middle and the side pay
            if (isLikely) {
                call(method("shape"), 1 - i % 2, shape, amplitude * 9 / 10, period, count);
            }
        }
        if (random.nextBoolean()) {
            call(method("setLevels"), 1 + random.nextInt(4));
        }
        if (random.nextBoolean()) {
            call(method("setRate"), 100 + random.nextInt(random.nextBoolean() ? 400 : 3901), random.nextInt(1000));
        }
        call(method("setNoise"), random.nextBoolean());
        if (random.nextInt(4) == 0) {
            for (int i = 0; i < model.samples(0); i++) {
                call(method("setSample"), 0, i, random.nextInt(65536) - 32768);
            }
        }
    }

    private Method method(String name) {
        for (Method method : methods) {
            if (method.getName().equals(name)) {
                return method;
            }
        }
        throw new AssertionError(name);
    }

    /** Calls that take away what was coded are seldom, so that there is something to look at. */
    private Method pick() {
        Method method = methods.get(random.nextInt(methods.size()));
        String name = method.getName();
        boolean takes = name.startsWith("set") || name.equals("clear") || name.equals("add") || name.equals("limit");
        if (takes && random.nextInt(name.equals("clear") ? 12 : 5) != 0) {
            return model.frames() == 0 ? method("code") : method("turn");
        }
        if (name.equals("shape") && model.frames() > 0 && random.nextInt(8) != 0) {
            return method("decoded");
        }
        return method;
    }

    private boolean ask(Method method) throws Exception {
        Class<?>[] types = method.getParameterTypes();
        Object[] given = new Object[types.length];
        for (int i = 0; i < types.length; i++) {
            given[i] = types[i] == boolean.class ? (Object) random.nextBoolean()
                : types[i] == char.class ? (Object) (random.nextInt(20) == 0 ? 'x' : "qtizn".charAt(random.nextInt(5)))
                : (Object) number(method.getName(), i);
        }
        return call(method, given);
    }

    private int number(String name, int place) {
        if (random.nextInt(25) == 0) {
            int[] odd = {-1, 2, 3, 8, 64, 65, 256, 257, -100, 101, 16001, 32768, -32769, Integer.MAX_VALUE, Integer.MIN_VALUE};
            return odd[random.nextInt(odd.length)];
        }
        int places = Math.max(1, 32 * model.blocks());
        int frames = Math.max(1, model.blocks());
        return switch (name + place) {
            case "shape2" -> random.nextInt(random.nextBoolean() ? 100 : 16001);
            case "shape3" -> 2 + random.nextInt(random.nextBoolean() ? 4 : 63);
            case "shape4", "add1" -> 1 + random.nextInt(64);
            case "add2" -> random.nextInt(201) - 100;
            case "setSample2" -> random.nextInt(65536) - 32768;
            case "sample1", "returned1", "line1", "lineAnew1", "decoded1", "setSample1", "edited1", "keep1" -> random.nextInt(places + 1);
            case "keep0" -> random.nextInt(places / 2 + 1);
            case "order1", "parameter1", "residual1", "isStereo0", "pairBits0", "bitOf0", "strength1", "mask1" -> random.nextInt(frames);
            case "residual3" -> random.nextInt(32);
            case "bitOf1" -> random.nextInt(900);
            case "setLevels0" -> 1 + random.nextInt(4);
            case "strength2", "mask2", "step2", "noise2", "noiseAnew2", "bookOf2" -> random.nextInt(5);
            case "setQuiet0" -> random.nextInt(5);
            case "setQuiet1" -> random.nextInt(random.nextBoolean() ? 20 : 1001);
            case "setLength0", "codeOf0", "lengthOf0" -> random.nextInt(3);
            case "setLength1", "codeOf1", "lengthOf1" -> random.nextInt(8);
            case "setLength2" -> 1 + random.nextInt(8);
            case "setRate0" -> 100 + random.nextInt(random.nextBoolean() ? 400 : 3901);
            case "setRate1" -> random.nextInt(random.nextBoolean() ? 500 : 8001);
            case "frameBit1", "turn1" -> random.nextInt(random.nextBoolean() ? 60 : 600);
            case "arrive1" -> random.nextInt(120);
            case "played0" -> random.nextInt(60);
            case "played1" -> random.nextInt(120);
            case "limit0" -> 1 + random.nextInt(random.nextBoolean() ? 2000 : 32767);
            case "frameBits0", "frameBit0", "step0", "noise0", "noiseAnew0", "sections0", "bookOf0", "sectionBits0",
                "sectionBitsAnew0", "reservoir0", "lose0", "turn0", "repair0", "fault0", "preroll0", "arrive0" -> random.nextInt(frames);
            default -> random.nextInt(2);
        };
    }

    private boolean call(Method method, Object... given) throws Exception {
        if (made == MOST_CALLS) {
            return true;
        }
        made++;
        Object got = answer(house, method, given);
        Method due = Model.class.getDeclaredMethod(method.getName(), method.getParameterTypes());
        due.setAccessible(true);
        Object want = answer(model, due, given);
        String call = method.getName() + Arrays.toString(given);
        told.append(call).append(" -> ").append(want).append('\n');
        CHECK.due("run " + run + ": " + call, got, want);
        if (!want.equals(got)) {
            System.out.println(told.length() < 20000 ? told : told.substring(told.length() - 20000));
            return false;
        }
        return true;
    }

    private static Object answer(Object of, Method method, Object... given) throws Exception {
        try {
            return method.invoke(of, given);
        } catch (InvocationTargetException e) {
            if (e.getCause() instanceof Error) {
                throw (Error) e.getCause();
            }
            return e.getCause().getClass().getName();
        }
    }
}
