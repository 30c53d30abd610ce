/** Promises 17 to 22: setLevels, line, lineAnew, strength, mask, setQuiet. */
public final class LinesTest {
    private static final Check CHECK = new Check();

    public static void main(String[] args) {
        testLevels();
        testOneLevel();
        testEdgesOfChannel();
        testTwoLevels();
        testAnew();
        testStrengths();
        testMasks();
        testQuiet();
        testWrong();
        CHECK.end();
    }

    private static Maskingtone withOne(int blocks, int levels, int place, int value) {
        Maskingtone house = new Maskingtone();
        for (int i = 0; i < blocks; i++) {
            house.shape(0, 'z', 0, 2, 32);
        }
        house.setSample(0, place, value);
        house.setLevels(levels);
        return house;
    }

    private static void dueLines(String what, Maskingtone house, int from, int... want) {
        for (int i = 0; i < want.length; i++) {
            CHECK.due(what + ", line " + (from + i), house.line(0, from + i), want[i]);
            CHECK.due(what + ", anew " + (from + i), house.lineAnew(0, from + i), want[i]);
        }
    }

    private static void testLevels() {
        Maskingtone house = new Maskingtone();
        CHECK.due("setLevels(4)", house.setLevels(4), 3);
        CHECK.due("setLevels(1)", house.setLevels(1), 4);
        CHECK.noArgument("setLevels(0)", () -> house.setLevels(0));
        CHECK.noArgument("setLevels(5)", () -> house.setLevels(5));
        CHECK.due("setLevels(2)", house.setLevels(2), 1);
    }

    private static void testOneLevel() {
        dueLines("16 at 8", withOne(1, 1, 8, 16), 5, 0, -2, -8, 12, -8, -2, 0);
        dueLines("16 at 9", withOne(1, 1, 9, 16), 7, 0, 4, 16, 4, 0);
        dueLines("-3 at 8, rounded down", withOne(1, 1, 8, -3), 6, 1, 2, -2, 2, 1);
    }

    private static void testEdgesOfChannel() {
        dueLines("16 at 0", withOne(1, 1, 0, 16), 0, 12, -8, -2, 0);
        dueLines("16 at 31", withOne(1, 1, 31, 16), 28, 0, 0, 4, 16);
        dueLines("16 at 30", withOne(1, 1, 30, 16), 27, 0, -2, -8, 16 + ((-8 - 16 + 2) >> 2), -16);
        // the border of a block is none of the channel
        dueLines("16 at 31 of two blocks", withOne(2, 1, 31, 16), 29, 0, 4, 16, 4, 0);
        dueLines("16 at 32 of two blocks", withOne(2, 1, 32, 16), 29, 0, -2, -8, 12, -8, -2, 0);
    }

    private static void testTwoLevels() {
        // the level 1 leaves 12 at 8 and -2 at 6 and 10; the level 2 has 4, 8, 12
        dueLines("16 at 8", withOne(1, 2, 8, 16), 3, 0, (-8 + 2) >> 2, 0, -8, -8, 12 + ((-8 - 8 + 2) >> 2), -8, -8);
    }

    private static void testAnew() {
        for (int levels = 1; levels <= 4; levels++) {
            Maskingtone house = new Maskingtone();
            house.shape(0, 'n', 16000, 9, 64);
            house.shape(0, 'n', 16000, 8, 10);
            house.shape(1, 'q', 16000, 3, 5);
            house.setLevels(levels);
            for (int channel = 0; channel < 2; channel++) {
                for (int i = 0; i < 96; i++) {
                    CHECK.due("lineAnew of " + levels, house.lineAnew(channel, i), house.line(channel, i));
                }
            }
        }
        Maskingtone same = new Maskingtone();
        same.shape(0, 'q', 777, 64, 32);
        same.setLevels(4);
        for (int i = 0; i < 32; i++) {
            CHECK.due("line of the same", same.line(0, i), i % 16 == 0 ? 777 : 0);
        }
    }

    private static void testStrengths() {
        Maskingtone house = withOne(2, 1, 8, 1600);
        // 1200 at 8, -200 at 6 and 10; -800 at 7 and 9
        CHECK.due("strength of 0", house.strength(0, 0, 0), 100);
        CHECK.due("strength of 1", house.strength(0, 0, 1), 100);
        CHECK.due("strength behind", house.strength(0, 1, 0), 0);
        CHECK.due("strength of the other", house.strength(1, 0, 0), 0);
        house.setSample(0, 8, 1599);
        CHECK.due("strength, cut", house.strength(0, 0, 1), 100 - 1);
        Maskingtone deep = new Maskingtone();
        deep.shape(0, 'q', 640, 64, 32);
        deep.setLevels(4);
        CHECK.due("strength of the same", deep.strength(0, 0, 0), 640);
        CHECK.due("strength of the same", deep.strength(0, 0, 4), 0);
        // one line of each band by itself, as the places 16, 8, 4, 2, 1 in each
        int[] first = {16, 8, 4, 2, 1};
        int[] count = {2, 2, 4, 8, 16};
        Maskingtone many = new Maskingtone();
        many.shape(0, 'n', 16000, 11, 64);
        many.setLevels(4);
        for (int band = 0; band <= 4; band++) {
            int sum = 0;
            for (int i = 0; i < 32; i++) {
                int twos = i == 0 ? 9 : Integer.numberOfTrailingZeros(i);
                sum += Math.max(0, 4 - twos) == band ? Math.abs(many.line(0, 32 + i)) : 0;
            }
            CHECK.due("strength of " + band + " from " + first[band], many.strength(0, 1, band), sum / count[band]);
        }
    }

    private static void testMasks() {
        Maskingtone own = withOne(3, 1, 40, 1600);
        CHECK.due("an eighth of its own", own.mask(0, 1, 0), 12);
        CHECK.due("a 32nd of the frame ahead", own.mask(0, 2, 0), 3);
        CHECK.due("what is quiet", own.mask(0, 0, 0), 2);
        own.setQuiet(0, 0);
        CHECK.due("a 64th of the frame behind", own.mask(0, 0, 0), 1);
        CHECK.due("what is quiet in the other", own.mask(0, 0, 1), 2);
        own.setQuiet(0, 13);
        CHECK.due("what is quiet", own.mask(0, 1, 0), 13);
        Maskingtone loud = withOne(3, 1, 40, 32000);
        loud.setQuiet(0, 0);
        // -16000 at 39 and 41: a strength of 2000; 24000 and twice -4000: 2000
        CHECK.due("strength", loud.strength(0, 1, 0), 2000);
        CHECK.due("an eighth", loud.mask(0, 1, 0), 250);
        CHECK.due("a 32nd", loud.mask(0, 2, 0), 62);
        CHECK.due("a 64th", loud.mask(0, 0, 0), 31);
        Maskingtone louder = withOne(3, 1, 41, 32000);
        louder.setQuiet(0, 0);
        louder.setQuiet(1, 0);
        // 32000 at 41 and twice 8000: strengths of 2000 and 1000
        CHECK.due("a 32nd, cut", louder.mask(0, 2, 0), 31);
        CHECK.due("a 64th, cut", louder.mask(0, 0, 0), 15);
        CHECK.due("a 16th or an eighth", louder.mask(0, 1, 1), 250);
        CHECK.due("an eighth", louder.mask(0, 1, 0), 125);
        Maskingtone same = new Maskingtone();
        same.shape(0, 'q', 1600, 64, 32);
        same.setLevels(2);
        CHECK.due("a 16th of the next lower", same.mask(0, 0, 1), 100);
        CHECK.due("not of the lower one of that", same.mask(0, 0, 2), 2);
        CHECK.due("its own", same.mask(0, 0, 0), 200);
        Maskingtone fast = new Maskingtone();
        fast.shape(0, 'q', 1600, 2, 32);
        fast.setLevels(2);
        CHECK.due("strength of 2", fast.strength(0, 0, 2), 3200);
        CHECK.due("a 32nd of the next higher", fast.mask(0, 0, 1), 100);
        CHECK.due("not of the higher one of that", fast.mask(0, 0, 0), 2);
        CHECK.due("not of the other channel", fast.mask(1, 0, 2), 2);
    }

    private static void testQuiet() {
        Maskingtone house = new Maskingtone();
        for (int band = 0; band < 5; band++) {
            CHECK.due("setQuiet " + band, house.setQuiet(band, 1000), 2);
            CHECK.due("setQuiet " + band, house.setQuiet(band, 0), 1000);
        }
        CHECK.noArgument("band -1", () -> house.setQuiet(-1, 0));
        CHECK.noArgument("band 5", () -> house.setQuiet(5, 0));
        CHECK.noArgument("quiet -1", () -> house.setQuiet(0, -1));
        CHECK.noArgument("quiet 1001", () -> house.setQuiet(0, 1001));
        CHECK.due("setQuiet", house.setQuiet(4, 7), 0);
    }

    private static void testWrong() {
        Maskingtone house = new Maskingtone();
        CHECK.noPlace("line of none", () -> house.line(0, 0));
        CHECK.noPlace("strength of none", () -> house.strength(0, 0, 0));
        house.shape(0, 'q', 5, 2, 33);
        int[][] wrong = {{-1, 0}, {2, 0}, {0, -1}, {1, 2}};
        for (int[] each : wrong) {
            CHECK.noPlace("line", () -> house.line(each[0], each[1] * 32));
            CHECK.noPlace("lineAnew", () -> house.lineAnew(each[0], each[1] * 32));
            CHECK.noPlace("strength", () -> house.strength(each[0], each[1], 9));
            CHECK.noPlace("mask", () -> house.mask(each[0], each[1], 9));
        }
        CHECK.noArgument("strength of band 4", () -> house.strength(0, 0, 4));
        CHECK.noArgument("strength of band -1", () -> house.strength(0, 0, -1));
        CHECK.noArgument("mask of band 4", () -> house.mask(0, 0, 4));
        CHECK.noArgument("mask of band -1", () -> house.mask(0, 0, -1));
        CHECK.due("band 3", house.strength(0, 0, 3) > 0, true);
        house.setLevels(4);
        CHECK.due("band 4", house.mask(0, 0, 4), 2);
        CHECK.due("the last one", house.line(0, 63), house.lineAnew(0, 63));
    }
}
