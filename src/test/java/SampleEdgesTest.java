/** The edges in the paragraph "Samples" and in the promises 1 to 8. */
public final class SampleEdgesTest {
    private static final Check CHECK = new Check();

    public static void main(String[] args) {
        testNew();
        testLeastAndGreatest();
        testFull();
        testLongerOne();
        testMultipleOf32();
        testPeriods();
        testShapesOfNothing();
        testPeriodBeginsAnew();
        testNoise();
        testAddCuts();
        testAddPercents();
        testAddShifts();
        testAddBehindTheEnd();
        testAddCounts();
        testSetSamplePlaces();
        testClear();
        testClearedPlaces();
        CHECK.end();
    }

    private static void dueRow(String what, Maskingtone house, int channel, int from, int... want) {
        for (int i = 0; i < want.length; i++) {
            CHECK.due(what + ", sample " + (from + i), house.sample(channel, from + i), want[i]);
        }
    }

    private static void testNew() {
        Document.says(CHECK, "Creates a house without samples.");
        Maskingtone house = new Maskingtone();
        for (int channel = 0; channel < 2; channel++) {
            int own = channel;
            CHECK.due("samples", house.samples(channel), 0);
            CHECK.due("peak", house.peak(channel), 0);
            CHECK.due("truePeak", house.truePeak(channel), 0);
            CHECK.due("loudness", house.loudness(channel), 0L);
            CHECK.noPlace("sample", () -> house.sample(own, 0));
            CHECK.noPlace("line", () -> house.line(own, 0));
            CHECK.noPlace("lineAnew", () -> house.lineAnew(own, 0));
        }
        CHECK.due("blocks", house.blocks(), 0);
        CHECK.due("frames", house.frames(), 0);
        CHECK.due("allBits", house.allBits(), 0);
        CHECK.due("limit", house.limit(1), 0);
        CHECK.due("add", house.add(1, 0, 100), 0);
        CHECK.due("played", house.played(0, 0), -1);
        CHECK.due("dropEdits", house.dropEdits(), 0);
        CHECK.due("isSound", house.isSound(), true);
        // one object knows nothing of another
        house.shape(0, 'q', 5, 2, 64);
        CHECK.due("blocks of another", new Maskingtone().blocks(), 0);
    }

    private static void testLeastAndGreatest() {
        Document.says(CHECK, "The channels 0 and 1 have samples from -32768 to 32767, at most 256 each");
        Maskingtone house = new Maskingtone();
        house.shape(0, 'z', 0, 2, 3);
        house.shape(1, 'z', 0, 2, 3);
        for (int channel = 0; channel < 2; channel++) {
            int own = channel;
            CHECK.due("the least", house.setSample(channel, 1, -32768), 0);
            CHECK.due("the greatest", house.setSample(channel, 1, 32767), -32768);
            CHECK.noArgument("beyond the greatest", () -> house.setSample(own, 1, 32768));
            CHECK.noArgument("beyond the least", () -> house.setSample(own, 1, -32769));
            CHECK.noArgument("far above", () -> house.setSample(own, 1, Integer.MAX_VALUE));
            CHECK.noArgument("far below", () -> house.setSample(own, 1, Integer.MIN_VALUE));
            CHECK.due("as it was", house.setSample(channel, 1, 0), 32767);
        }
    }

    private static void testFull() {
        Document.says(CHECK, "Throws `IllegalStateException` if it would have more than 256");
        Maskingtone house = new Maskingtone();
        for (int channel = 0; channel < 2; channel++) {
            int own = channel;
            CHECK.due("64", house.shape(channel, 'q', 1, 2, 64), 64);
            CHECK.due("128", house.shape(channel, 'q', 2, 2, 64), 128);
            CHECK.due("192", house.shape(channel, 'q', 3, 2, 64), 192);
            CHECK.due("193", house.shape(channel, 'q', 4, 2, 1), 193);
            CHECK.noState("257", () -> house.shape(own, 'q', 5, 2, 64));
            CHECK.due("as many as were", house.samples(channel), 193);
            CHECK.due("256", house.shape(channel, 'q', 6, 2, 63), 256);
            CHECK.noState("one more", () -> house.shape(own, 'q', 7, 2, 1));
            CHECK.due("as many as were", house.samples(channel), 256);
            CHECK.due("the last one", house.sample(channel, 255), 6);
            CHECK.due("the first one", house.sample(channel, 0), 1);
        }
        CHECK.due("blocks", house.blocks(), 8);
        CHECK.noPlace("sample 256", () -> house.sample(0, 256));
        // what is documented first goes ahead
        CHECK.noPlace("no channel, no shape, full", () -> house.shape(2, 'x', -1, 0, 65));
        CHECK.noArgument("no shape, full", () -> house.shape(0, 'x', 1, 2, 1));
        CHECK.noArgument("count 65, full", () -> house.shape(0, 'q', 1, 2, 65));
    }

    private static void testLongerOne() {
        Document.says(CHECK, "a channel counts as long as the longer one, with 0 at its end");
        for (int longer = 0; longer < 2; longer++) {
            Maskingtone house = new Maskingtone();
            int other = 1 - longer;
            house.shape(longer, 'q', 9, 64, 64);
            house.shape(longer, 'q', 9, 64, 6);
            CHECK.due("blocks of an empty one", house.blocks(), 3);
            CHECK.due("sample of an empty one", house.sample(other, 95), 0);
            CHECK.due("line of an empty one", house.line(other, 95), 0);
            CHECK.due("order of an empty one", house.order(other, 2, false), 0);
            CHECK.due("returned of an empty one", house.returned(other, 95), 0);
            house.shape(other, 'q', 7, 64, 5);
            CHECK.due("samples", house.samples(other), 5);
            dueRow("the shorter one", house, other, 3, 7, 7, 0, 0);
            dueRow("the shorter one, at the end of the longer", house, other, 68, 0, 0, 0);
            CHECK.due("strength of its last block", house.strength(other, 2, 0), 0);
            house.code();
            CHECK.due("frames", house.frames(), 3);
            CHECK.due("decoded of the shorter", house.decoded(other, 95), 0);
            CHECK.noPlace("sample 96", () -> house.sample(other, 96));
        }
    }

    private static void testMultipleOf32() {
        Document.says(CHECK, "and both as a multiple of 32, with 0 further on.");
        Document.says(CHECK, "Returns a sample; 0 behind the last one of the channel.");
        for (int count : new int[] {1, 2, 31, 32, 33, 63, 64, 65, 95, 96, 97, 223, 224, 225, 255, 256}) {
            Maskingtone house = new Maskingtone();
            for (int from = 0; from < count; from += 64) {
                house.shape(1, 'q', 3, 64, Math.min(64, count - from));
            }
            int blocks = count / 32 + (count % 32 == 0 ? 0 : 1);
            CHECK.due("blocks of " + count, house.blocks(), blocks);
            CHECK.due("samples of " + count, house.samples(1), count);
            CHECK.due("the last one of " + count, Math.abs(house.sample(1, count - 1)), 3);
            if (count % 32 != 0) {
                CHECK.due("behind " + count, house.sample(1, count), 0);
                CHECK.due("at the end behind " + count, house.sample(1, 32 * blocks - 1), 0);
            }
            CHECK.due("the other of " + count, house.sample(0, 32 * blocks - 1), 0);
            CHECK.noPlace("further on than " + count, () -> house.sample(1, 32 * blocks));
            CHECK.noPlace("ahead of " + count, () -> house.sample(1, -1));
        }
    }

    private static void testPeriods() {
        Document.says(CHECK, "'q' a in the first half of the period, which is p / 2 cut, else -a");
        Document.says(CHECK, "'t' a straight rise: 2 a times the place in the period, divided by p, cut, less a");
        Document.says(CHECK, "'i' a at each beginning of a period, else 0");
        Maskingtone house = new Maskingtone();
        house.shape(0, 'q', 8, 2, 5);
        dueRow("q of 2", house, 0, 0, 8, -8, 8, -8, 8);
        house.shape(0, 'q', 8, 3, 5);
        dueRow("q of 3", house, 0, 5, 8, -8, -8, 8, -8);
        house.shape(0, 't', 8, 2, 3);
        dueRow("t of 2", house, 0, 10, -8, 0, -8);
        house.shape(0, 't', 1, 3, 5);
        dueRow("t of 3", house, 0, 13, -1, -1, 0, -1, -1);
        house.shape(0, 'i', 8, 2, 5);
        dueRow("i of 2", house, 0, 18, 8, 0, 8, 0, 8);
        Maskingtone longest = new Maskingtone();
        longest.shape(1, 'q', 16000, 64, 64);
        dueRow("q of 64", longest, 1, 30, 16000, 16000, -16000, -16000);
        dueRow("q of 64, the last one", longest, 1, 63, -16000);
        longest.shape(1, 'q', 16000, 63, 64);
        dueRow("q of 63, an odd half", longest, 1, 64 + 30, 16000, -16000);
        dueRow("q of 63 begins again", longest, 1, 64 + 62, -16000, 16000);
        longest.shape(1, 't', 16000, 64, 64);
        dueRow("t of 64", longest, 1, 128, -16000, -15500);
        dueRow("t of 64, the last one", longest, 1, 191, 15500);
        longest.shape(1, 't', 16000, 63, 64);
        dueRow("t of 63, cut, begins again", longest, 1, 192 + 61, 2 * 16000 * 61 / 63 - 16000, 15492, -16000);
        longest.clear();
        longest.shape(1, 'i', 16000, 64, 64);
        dueRow("i of 64", longest, 1, 0, 16000, 0);
        dueRow("i of 64, the last one", longest, 1, 63, 0);
        longest.shape(1, 'i', 16000, 63, 64);
        dueRow("i of 63 begins again", longest, 1, 64 + 61, 0, 0, 16000);
    }

    private static void testShapesOfNothing() {
        Document.says(CHECK, "- `amplitude`: the amplitude, 0 to 16000");
        Document.says(CHECK, "'z' 0");
        for (char shape : "qtizn".toCharArray()) {
            Maskingtone house = new Maskingtone();
            CHECK.due("count 1", house.shape(0, shape, 0, 2, 1), 1);
            CHECK.due("count 64", house.shape(0, shape, 0, 64, 64), 65);
            CHECK.due(shape + " of 0", house.peak(0), 0);
            CHECK.due("the greatest of all", house.shape(0, shape, 16000, 64, 64), 129);
            CHECK.due(shape + " within its amplitude", house.peak(0) <= 16000, true);
            CHECK.due(shape + " with an amplitude", house.peak(0) > 0, shape != 'z');
        }
    }

    private static void testPeriodBeginsAnew() {
        Document.says(CHECK, "have, at the place i from 0 on:");
        Maskingtone house = new Maskingtone();
        house.shape(0, 'q', 4, 64, 3);
        house.shape(0, 'q', 5, 4, 3);
        house.shape(0, 't', 6, 64, 1);
        house.shape(0, 'i', 7, 64, 2);
        house.shape(0, 'i', 9, 64, 1);
        dueRow("each from its own beginning", house, 0, 0, 4, 4, 4, 5, 5, -5, -6, 7, 0, 9, 0);
    }

    private static void testNoise() {
        Document.says(CHECK, "'n' noise: a number that is p times 7919 at first, in each call anew, each time times 1103515245 plus 12345, of which the last 31 bits are kept, shifted right by 8, then modulo 2 a + 1, less a.");
        for (int amplitude : new int[] {0, 1, 2, 15999, 16000}) {
            for (int period : new int[] {2, 3, 63, 64}) {
                Maskingtone house = new Maskingtone();
                house.shape(0, 'n', amplitude, period, 64);
                house.shape(0, 'n', amplitude, period, 3);
                java.math.BigInteger number = java.math.BigInteger.valueOf(period * 7919L);
                for (int i = 0; i < 64; i++) {
                    number = number.multiply(java.math.BigInteger.valueOf(1103515245)).add(java.math.BigInteger.valueOf(12345));
                    number = number.mod(java.math.BigInteger.ONE.shiftLeft(31));
                    int want = (int) (number.longValue() / 256 % (2 * amplitude + 1)) - amplitude;
                    CHECK.due("n of " + amplitude + " and " + period + " at " + i, house.sample(0, i), want);
                    if (i < 3) {
                        CHECK.due("anew", house.sample(0, 64 + i), want);
                    }
                }
            }
        }
    }

    private static Maskingtone one(int left, int right) {
        Maskingtone house = new Maskingtone();
        house.shape(0, 'z', 0, 2, 1);
        house.shape(1, 'z', 0, 2, 1);
        house.setSample(0, 0, left);
        house.setSample(1, 0, right);
        return house;
    }

    private static void dueSum(int left, int right, int percent, int want) {
        Maskingtone house = one(left, right);
        String what = left + " with " + percent + " percent of " + right;
        CHECK.due(what + ", how many", house.add(0, 0, percent), want == left ? 0 : 1);
        CHECK.due(what, house.sample(0, 0), want);
        CHECK.due("the other one stays", house.sample(1, 0), right);
        Maskingtone other = one(right, left);
        other.add(1, 0, percent);
        CHECK.due(what + " in the channel 1", other.sample(1, 0), want);
    }

    private static void testAddCuts() {
        Document.says(CHECK, "each sample cut to what a sample can be");
        dueSum(32766, 1, 100, 32767);
        dueSum(32767, 1, 100, 32767);
        dueSum(32766, 2, 100, 32767);
        dueSum(32767, 32767, 100, 32767);
        dueSum(-32767, -1, 100, -32768);
        dueSum(-32768, -1, 100, -32768);
        dueSum(-32767, -2, 100, -32768);
        dueSum(-32768, -32768, 100, -32768);
        dueSum(0, -32768, -100, 32767);
        dueSum(-1, -32768, -100, 32767);
        dueSum(-2, -32768, -100, 32766);
        dueSum(-2, 32767, -100, -32768);
        dueSum(-32768, 32767, 100, -1);
    }

    private static void testAddPercents() {
        Document.says(CHECK, "- `percent`: how much of it in percents, -100 to 100");
        dueSum(5, 1000, 0, 5);
        dueSum(5, 1000, 1, 15);
        dueSum(5, 1000, -1, -5);
        dueSum(5, 1000, 99, 995);
        dueSum(5, 99, 1, 5);
        dueSum(5, 100, 1, 6);
        dueSum(5, -99, 1, 5);
        dueSum(5, -100, 1, 4);
        dueSum(5, 32767, 99, 5 + 32439);
        dueSum(5, -32768, 99, 5 - 32440);
        Maskingtone house = one(5, 7);
        CHECK.noArgument("101", () -> house.add(0, 0, 101));
        CHECK.noArgument("-101", () -> house.add(0, 0, -101));
        CHECK.noArgument("the greatest", () -> house.add(0, 0, Integer.MAX_VALUE));
        CHECK.noArgument("the least", () -> house.add(0, 0, Integer.MIN_VALUE));
        CHECK.due("as it was", house.sample(0, 0), 5);
    }

    private static void testAddShifts() {
        Document.says(CHECK, "- `shift`: by how many samples it is moved on, 0 to 64");
        Maskingtone house = new Maskingtone();
        house.shape(0, 'z', 0, 2, 64);
        house.shape(0, 'z', 0, 2, 2);
        house.shape(1, 'q', 7, 4, 64);
        CHECK.due("shift 64", house.add(0, 64, 100), 2);
        dueRow("moved by 64", house, 0, 62, 0, 0, 7, 7, 0);
        CHECK.due("shift 63", house.add(0, 63, 100), 3);
        dueRow("moved by 63, too", house, 0, 62, 0, 7, 14, 0, 0);
        CHECK.due("shift 0", house.add(0, 0, 100), 64);
        dueRow("not moved", house, 0, 0, 7, 7, -7, -7, 7);
        dueRow("not moved", house, 0, 62, -7, 0, 14);
        CHECK.noArgument("shift 65", () -> house.add(0, 65, 100));
        CHECK.noArgument("shift -1", () -> house.add(0, -1, 100));
        CHECK.noPlace("no channel, shift 65", () -> house.add(2, 65, 101));
        CHECK.noPlace("no channel, shift -1", () -> house.add(-1, -1, -101));
    }

    private static void testAddBehindTheEnd() {
        Document.says(CHECK, "samples that the channel does not have are not added to.");
        Maskingtone house = new Maskingtone();
        house.shape(0, 'z', 0, 2, 3);
        house.shape(1, 'q', 7, 64, 32);
        CHECK.due("three of them", house.add(0, 0, 100), 3);
        CHECK.due("as many as were", house.samples(0), 3);
        dueRow("0 behind", house, 0, 2, 7, 0, 0);
        CHECK.due("none of them", house.add(0, 3, 100), 0);
        CHECK.due("the last of them", house.add(0, 2, 100), 1);
        house.shape(0, 'z', 0, 2, 1);
        dueRow("nothing waited there", house, 0, 2, 14, 0);
        // behind the other one's end there is 0
        CHECK.due("of the shorter", house.add(1, 0, 100), 3);
        dueRow("as it was", house, 1, 3, 7, 7);
    }

    private static void testAddCounts() {
        Document.says(CHECK, "Returns how many samples become other ones.");
        Maskingtone house = Build.ofSamples(new int[] {32767, 5, 32760, 0}, new int[] {100, 0, 100, 1});
        CHECK.due("all but the full one and what 0 is added to", house.add(0, 0, 99), 1);
        CHECK.due("by 0 percent", house.add(0, 0, 0), 0);
        CHECK.due("all of them", house.add(1, 0, 100), 3);
    }

    private static void testSetSamplePlaces() {
        Document.says(CHECK, "Throws `IndexOutOfBoundsException` if there is no such channel or sample");
        Maskingtone house = new Maskingtone();
        CHECK.noPlace("of none", () -> house.setSample(0, 0, 0));
        house.shape(0, 'q', 9, 64, 40);
        CHECK.due("the first one", house.setSample(0, 0, 1), 9);
        CHECK.due("the last one", house.setSample(0, 39, 2), -9);
        CHECK.noPlace("behind it", () -> house.setSample(0, 40, 3));
        CHECK.noPlace("within the blocks", () -> house.setSample(0, 63, 3));
        CHECK.noPlace("ahead", () -> house.setSample(0, -1, 3));
        CHECK.noPlace("of an empty one", () -> house.setSample(1, 0, 3));
        CHECK.noPlace("no sample, out of range", () -> house.setSample(0, 40, 32768));
        CHECK.noPlace("no channel, out of range", () -> house.setSample(-1, 0, 32768));
        dueRow("as set", house, 0, 38, -9, 2, 0);
        CHECK.due("as many as were", house.samples(0), 40);
    }

    private static void testClear() {
        Document.says(CHECK, "Takes all samples and edits away.");
        Document.says(CHECK, "Returns how many there were in both channels.");
        Maskingtone house = new Maskingtone();
        CHECK.due("of none", house.clear(), 0);
        for (int i = 0; i < 4; i++) {
            house.shape(0, 'q', 9, 64, 64);
            house.shape(1, 'q', 9, 64, 64);
        }
        for (int i = 0; i < 8; i++) {
            house.keep(0, 256);
        }
        CHECK.due("of all", house.clear(), 512);
        CHECK.due("blocks", house.blocks(), 0);
        CHECK.noElement("edited", () -> house.edited(0, 0));
        CHECK.due("edits", house.dropEdits(), 0);
        CHECK.due("of none again", house.clear(), 0);
        for (int i = 0; i < 4; i++) {
            CHECK.due("room again", house.shape(1, 'q', 9, 64, 64), 64 * i + 64);
        }
        CHECK.due("of one channel", house.clear(), 256);
    }

    private static void testClearedPlaces() {
        Maskingtone house = new Maskingtone();
        house.shape(0, 'q', 9, 64, 64);
        house.shape(1, 'q', 9, 64, 64);
        house.clear();
        house.shape(0, 'q', 5, 64, 1);
        CHECK.due("blocks", house.blocks(), 1);
        for (int i = 1; i < 32; i++) {
            CHECK.due("nothing is left of what was", house.sample(0, i), 0);
            CHECK.due("nothing is left in the other", house.sample(1, i), 0);
        }
        CHECK.due("peak", house.peak(0), 5);
        CHECK.due("peak of the other", house.peak(1), 0);
    }
}
