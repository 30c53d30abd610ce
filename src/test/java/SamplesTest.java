/** Promises 1 to 8: a new object, shape, add, setSample, clear, samples, sample, blocks. */
public final class SamplesTest {
    private static final Check CHECK = new Check();

    public static void main(String[] args) {
        testNew();
        testShapes();
        testNoiseShape();
        testShapeEdges();
        testAdd();
        testAddEdges();
        testSetSample();
        testClear();
        testSamplesAndBlocks();
        CHECK.end();
    }

    private static void testNew() {
        Maskingtone house = new Maskingtone();
        CHECK.due("samples(0)", house.samples(0), 0);
        CHECK.due("samples(1)", house.samples(1), 0);
        CHECK.due("blocks()", house.blocks(), 0);
        CHECK.due("frames()", house.frames(), 0);
        CHECK.due("clear()", house.clear(), 0);
        CHECK.due("dropEdits()", house.dropEdits(), 0);
        CHECK.due("allBits()", house.allBits(), 0);
        CHECK.due("setLevels(3)", house.setLevels(3), 3);
        CHECK.due("setRate(100, 0)", house.setRate(100, 0), 4000);
        CHECK.due("setNoise(true)", house.setNoise(true), false);
        CHECK.due("isSound()", house.isSound(), true);
    }

    private static void dueRow(String what, Maskingtone house, int channel, int from, int... want) {
        for (int i = 0; i < want.length; i++) {
            CHECK.due(what + " at " + i, house.sample(channel, from + i), want[i]);
        }
    }

    private static void testShapes() {
        Maskingtone house = new Maskingtone();
        CHECK.due("shape q", house.shape(0, 'q', 100, 5, 12), 12);
        dueRow("q", house, 0, 0, 100, 100, -100, -100, -100, 100, 100, -100, -100, -100, 100, 100, 0, 0);
        CHECK.due("shape t", house.shape(0, 't', 7, 4, 6), 18);
        dueRow("t", house, 0, 12, -7, -4, 0, 3, -7, -4, 0);
        CHECK.due("shape i", house.shape(0, 'i', 9, 3, 7), 25);
        dueRow("i", house, 0, 18, 9, 0, 0, 9, 0, 0, 9, 0);
        CHECK.due("shape z", house.shape(0, 'z', 50, 2, 3), 28);
        CHECK.due("shape i again", house.shape(0, 'i', 1, 2, 1), 29);
        dueRow("z", house, 0, 25, 0, 0, 0, 1, 0);
        CHECK.due("shape t of channel 1", house.shape(1, 't', 16000, 64, 64), 64);
        dueRow("t", house, 1, 60, 2 * 16000 * 60 / 64 - 16000, 14500, 15000, 15500);
    }

    private static void testNoiseShape() {
        Maskingtone house = new Maskingtone();
        house.shape(1, 'n', 50, 3, 40);
        long state = 3 * 7919;
        for (int i = 0; i < 40; i++) {
            state = (state * 1103515245L + 12345L) % (1L << 31);
            CHECK.due("n at " + i, house.sample(1, i), (int) ((state >> 8) % 101 - 50));
        }
        CHECK.due("shape n again", house.shape(1, 'n', 50, 3, 8), 48);
        for (int i = 0; i < 8; i++) {
            CHECK.due("n begins anew at " + i, house.sample(1, 40 + i), house.sample(1, i));
        }
        CHECK.due("shape n of 0", house.shape(0, 'n', 0, 64, 64), 64);
        CHECK.due("n of 0", house.sample(0, 63), 0);
    }

    private static void testShapeEdges() {
        Maskingtone house = new Maskingtone();
        CHECK.noPlace("channel -1", () -> house.shape(-1, 'x', -1, 0, 0));
        CHECK.noPlace("channel 2", () -> house.shape(2, 'q', 1, 2, 1));
        CHECK.noArgument("shape x", () -> house.shape(0, 'x', 1, 2, 1));
        CHECK.noArgument("shape Q", () -> house.shape(0, 'Q', 1, 2, 1));
        CHECK.noArgument("amplitude -1", () -> house.shape(0, 'q', -1, 2, 1));
        CHECK.noArgument("amplitude 16001", () -> house.shape(0, 'q', 16001, 2, 1));
        CHECK.noArgument("period 1", () -> house.shape(0, 'q', 1, 1, 1));
        CHECK.noArgument("period 0", () -> house.shape(0, 'n', 1, 0, 1));
        CHECK.noArgument("period 65", () -> house.shape(0, 'q', 1, 65, 1));
        CHECK.noArgument("count 0", () -> house.shape(0, 'q', 1, 2, 0));
        CHECK.noArgument("count 65", () -> house.shape(0, 'q', 1, 2, 65));
        CHECK.due("nothing was put", house.samples(0) + house.samples(1), 0);
        CHECK.due("amplitude 16000", house.shape(0, 'q', 16000, 2, 64), 64);
        CHECK.due("second", house.shape(0, 'q', 0, 64, 64), 128);
        CHECK.due("third", house.shape(0, 'q', 3, 64, 64), 192);
        CHECK.due("fourth", house.shape(0, 'q', 4, 64, 63), 255);
        CHECK.noState("257 samples", () -> house.shape(0, 'q', 5, 64, 2));
        CHECK.noArgument("257 samples of no shape", () -> house.shape(0, 'p', 5, 64, 2));
        CHECK.due("256 samples", house.shape(0, 'i', 5, 64, 1), 256);
        CHECK.noState("257 samples", () -> house.shape(0, 'q', 5, 64, 1));
        CHECK.due("the other channel", house.shape(1, 'z', 5, 64, 1), 1);
        dueRow("of four calls", house, 0, 62, 16000, -16000, 0, 0);
        CHECK.due("the last one", house.sample(0, 255), 5);
    }

    private static void testAdd() {
        Maskingtone house = new Maskingtone();
        house.shape(0, 'q', 100, 4, 8);
        house.shape(1, 't', 99, 3, 6);
        // 1: -99 -33 33 -99 -33 33
        CHECK.due("add(0, 1, 50)", house.add(0, 1, 50), 6);
        dueRow("half of it", house, 0, 0, 100, 51, -116, -84, 51, 84, -84, -100);
        CHECK.due("add(1, 0, -100)", house.add(1, 0, -100), 6);
        dueRow("turned over", house, 1, 0, -199, -84, 149, -15, -84, -51, 0, 0);
        CHECK.due("add(1, 2, 0)", house.add(1, 2, 0), 0);
        CHECK.due("samples(1)", house.samples(1), 6);
    }

    private static void testAddEdges() {
        Maskingtone house = new Maskingtone();
        CHECK.noPlace("channel 2", () -> house.add(2, 65, 101));
        CHECK.noPlace("channel -1", () -> house.add(-1, 0, 0));
        CHECK.noArgument("shift -1", () -> house.add(0, -1, 0));
        CHECK.noArgument("shift 65", () -> house.add(0, 65, 0));
        CHECK.noArgument("percent -101", () -> house.add(0, 0, -101));
        CHECK.noArgument("percent 101", () -> house.add(0, 0, 101));
        CHECK.due("of nothing", house.add(0, 64, 100), 0);
        house.shape(0, 'z', 0, 2, 64);
        house.shape(0, 'z', 0, 2, 2);
        house.shape(1, 'i', 1000, 64, 1);
        CHECK.due("shift 64", house.add(0, 64, 100), 1);
        CHECK.due("moved by 64", house.sample(0, 64), 1000);
        house.setSample(1, 0, 32767);
        house.setSample(0, 3, 32000);
        CHECK.due("cut above", house.add(0, 3, 100), 1);
        CHECK.due("cut above", house.sample(0, 3), 32767);
        CHECK.due("as before", house.add(0, 3, 1), 0);
        house.setSample(0, 4, -32000);
        house.add(0, 4, -100);
        CHECK.due("cut below", house.sample(0, 4), -32768);
        house.setSample(1, 0, -1);
        CHECK.due("less than one", house.add(0, 5, 99), 0);
        house.setSample(1, 0, -199);
        house.add(0, 6, 1);
        CHECK.due("cut towards 0", house.sample(0, 6), -1);
        house.setSample(0, 0, 7);
        CHECK.due("not longer", house.add(1, 0, 100), 1);
        CHECK.due("not longer", house.samples(1), 1);
        CHECK.due("0 behind", house.sample(1, 3), 0);
    }

    private static void testSetSample() {
        Maskingtone house = new Maskingtone();
        house.shape(0, 'q', 10, 2, 3);
        CHECK.due("setSample", house.setSample(0, 1, 32767), -10);
        CHECK.due("setSample", house.setSample(0, 1, -32768), 32767);
        CHECK.due("sample", house.sample(0, 1), -32768);
        CHECK.noPlace("index 3", () -> house.setSample(0, 3, 0));
        CHECK.noPlace("index -1", () -> house.setSample(0, -1, 40000));
        CHECK.noPlace("channel 2", () -> house.setSample(2, 0, 0));
        CHECK.noPlace("the shorter one", () -> house.setSample(1, 0, 0));
        CHECK.noArgument("value 32768", () -> house.setSample(0, 2, 32768));
        CHECK.noArgument("value -32769", () -> house.setSample(0, 2, -32769));
        dueRow("no change", house, 0, 0, 10, -32768, 10, 0);
    }

    private static void testClear() {
        Maskingtone house = new Maskingtone();
        house.shape(0, 'q', 10, 2, 40);
        house.shape(1, 'q', 10, 2, 3);
        house.keep(0, 4);
        house.setQuiet(0, 9);
        CHECK.due("clear", house.clear(), 43);
        CHECK.due("samples", house.samples(0) + house.samples(1), 0);
        CHECK.due("blocks", house.blocks(), 0);
        CHECK.due("edits", house.dropEdits(), 0);
        CHECK.due("quiet stays", house.setQuiet(0, 2), 9);
        house.shape(1, 'i', 1, 64, 1);
        CHECK.due("nothing is left", house.sample(0, 0) + house.sample(1, 1), 0);
        CHECK.due("clear", house.clear(), 1);
    }

    private static void testSamplesAndBlocks() {
        Maskingtone house = new Maskingtone();
        CHECK.noPlace("samples(2)", () -> house.samples(2));
        CHECK.noPlace("samples(-1)", () -> house.samples(-1));
        CHECK.noPlace("sample of none", () -> house.sample(0, 0));
        house.shape(0, 'q', 1, 2, 32);
        CHECK.due("one block", house.blocks(), 1);
        CHECK.noPlace("index 32", () -> house.sample(0, 32));
        CHECK.noPlace("index -1", () -> house.sample(0, -1));
        CHECK.noPlace("channel 2", () -> house.sample(2, 0));
        CHECK.noPlace("channel -1", () -> house.sample(-1, 0));
        house.shape(1, 'q', 1, 2, 33);
        CHECK.due("two blocks", house.blocks(), 2);
        CHECK.due("as put in", house.samples(0), 32);
        CHECK.due("as put in", house.samples(1), 33);
        CHECK.due("behind the last one", house.sample(0, 63), 0);
        CHECK.noPlace("index 64", () -> house.sample(1, 64));
    }
}
