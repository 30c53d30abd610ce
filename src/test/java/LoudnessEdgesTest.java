/** The edges in the promises 53 to 59: loudness and figures. */
public final class LoudnessEdgesTest {
    private static final Check CHECK = new Check();
    private static final int[] EMPTY = {};

    public static void main(String[] args) {
        testPeak();
        testBetweenNeighbours();
        testNeighboursNotThere();
        testBetweenRoundedDown();
        testGreatestBetween();
        testMeansCut();
        testAtLeastATenth();
        testTenthCut();
        testLoudnessOfNone();
        testLoudest();
        testLimitRange();
        testAboveTheLevel();
        testCutTowards0();
        testBlocksBecomeSmaller();
        testChannels();
        testRatio();
        testMeanNoise();
        testSound();
        CHECK.end();
    }

    private static Maskingtone with(int... values) {
        return Build.ofSamples(values, EMPTY);
    }

    private static void testPeak() {
        Document.says(CHECK, "Returns the greatest sample of a channel without its sign.");
        CHECK.due("of none", new Maskingtone().peak(0), 0);
        CHECK.due("of silence", with(0, 0).peak(0), 0);
        CHECK.due("below 0", with(-1).peak(0), 1);
        CHECK.due("the greatest below 0", with(32767, -32768).peak(0), 32768);
        CHECK.due("the greatest above 0", with(32767, -32767).peak(0), 32767);
        CHECK.due("the first", with(9, 1, 1).peak(0), 9);
        CHECK.due("of the other one", with(9, 1, 1).peak(1), 0);
        int[] row = new int[256];
        row[255] = -4;
        CHECK.due("the last of all", with(row).peak(0), 4);
        row[0] = 5;
        CHECK.due("the first of all", with(row).peak(0), 5);
    }

    private static void testBetweenNeighbours() {
        Document.says(CHECK, "Returns the greatest amount of samples and of what is between two neighbours: 9 times their sum, less the one ahead of them and the one behind them, which are 0 if they are not there, divided by 16, rounded down.");
        CHECK.due("between two", with(0, 160, 160, 0).truePeak(0), 180);
        CHECK.due("less the one ahead", with(160, 160, 160, 0).truePeak(0), 170);
        CHECK.due("less both", with(160, 160, 160, 160).truePeak(0), 170);
        CHECK.due("less both", with(16, 160, 160, 32).truePeak(0), 177);
        CHECK.due("below 0", with(-16, -160, -160, -32).truePeak(0), 177);
        CHECK.due("more by both", with(-16, 160, 160, -32).truePeak(0), 183);
        CHECK.due("a sample is greater", with(0, 160, 0, 0).truePeak(0), 160);
        CHECK.due("the last sample is greater", with(0, 0, 160).truePeak(0), 160);
        CHECK.due("of the other one", with(160, 160).truePeak(1), 0);
    }

    private static void testNeighboursNotThere() {
        CHECK.due("none ahead", with(160, 160, 32).truePeak(0), 178);
        CHECK.due("none ahead, more by the one behind", with(160, 160, -32).truePeak(0), 182);
        int[] row = new int[32];
        row[30] = 160;
        row[31] = 160;
        CHECK.due("none behind", with(row).truePeak(0), 180);
        row[29] = 32;
        CHECK.due("none behind, less the one ahead", with(row).truePeak(0), 178);
        int[] full = new int[256];
        full[254] = -160;
        full[255] = -160;
        CHECK.due("behind the last of all", with(full).truePeak(0), 180);
        // the border of a block, and the end of the samples, are within
        int[] two = new int[64];
        two[31] = 160;
        two[32] = 160;
        CHECK.due("between two blocks", with(two).truePeak(0), 180);
        CHECK.due("the last two samples", with(0, 160, 160).truePeak(0), 180);
        Maskingtone longer = Build.ofSamples(Build.all(32, 160), Build.all(64, 1));
        CHECK.due("0 behind the shorter one", longer.truePeak(0), 170);
        CHECK.due("of the longer one", longer.truePeak(1), 1);
        Maskingtone one = with(160);
        CHECK.due("one sample", one.truePeak(0), 160);
    }

    private static void testBetweenRoundedDown() {
        // 9 * 320 is 2880, and 2879 by 16 is 179 and a rest
        CHECK.due("just so", with(0, 160, 160, 0).truePeak(0), 180);
        CHECK.due("a little less", with(1, 160, 160, 0).truePeak(0), 179);
        CHECK.due("a little more", with(-1, 160, 160, 0).truePeak(0), 180);
        CHECK.due("below 0, just so", with(0, -160, -160, 0).truePeak(0), 180);
        CHECK.due("below 0, a little less", with(-1, -160, -160, 0).truePeak(0), 180);
        CHECK.due("below 0, a little more", with(1, -160, -160, 0).truePeak(0), 181);
        CHECK.due("-18 by 16 is -2", with(0, -1, -1, 0).truePeak(0), 2);
        CHECK.due("18 by 16 is 1", with(0, 1, 1, 0).truePeak(0), 1);
    }

    private static void testGreatestBetween() {
        CHECK.due("above all samples", with(-32768, 32767, 32767, -32768).truePeak(0), (18 * 32767 + 2 * 32768) / 16);
        CHECK.due("below all samples", with(32767, -32768, -32768, 32767).truePeak(0), (18 * 32768 + 2 * 32767 + 15) / 16);
        CHECK.due("peak of that", with(32767, -32768, -32768, 32767).peak(0), 32768);
    }

    private static void testMeansCut() {
        Document.says(CHECK, "Returns the loudness: the mean, cut, of the means, cut, of the squares of blocks, of those whose mean is at least a tenth, cut, of the mean of all.");
        int[] row = Build.all(32, 1);
        CHECK.due("a mean of 1", with(row).loudness(0), 1L);
        row[31] = 0;
        CHECK.due("31 by 32", with(row).loudness(0), 0L);
        CHECK.due("samples that are not there count, too", with(Build.all(31, 1)).loudness(0), 0L);
        row[31] = 5;
        CHECK.due("56 by 32", with(row).loudness(0), 1L);
        row[31] = -6;
        CHECK.due("67 by 32", with(row).loudness(0), 2L);
        // means of 1 and 2 of 56 and 88 by 32: their mean is 1, that of both blocks together would be 2
        int[] two = Build.all(64, 1);
        two[31] = 5;
        two[62] = 5;
        two[63] = 6;
        CHECK.due("1 and 2 and a rest", with(two).loudness(0), 1L);
        two[0] = 6;
        CHECK.due("2 and 2", with(two).loudness(0), 2L);
    }

    private static int[] means(int... amounts) {
        int[] row = new int[32 * amounts.length];
        for (int block = 0; block < amounts.length; block++) {
            java.util.Arrays.fill(row, 32 * block, 32 * block + 32, amounts[block]);
        }
        return row;
    }

    private static void testAtLeastATenth() {
        // 36 and 1: the mean is 18, a tenth of it 1
        CHECK.due("just a tenth", with(means(6, 1)).loudness(0), (36L + 1) / 2);
        CHECK.due("just a tenth, ahead", with(means(1, 6)).loudness(0), (36L + 1) / 2);
        // 49 and 1: the mean is 25, a tenth of it 2
        CHECK.due("less than a tenth", with(means(7, 1)).loudness(0), 49L);
        CHECK.due("less than a tenth, below 0", with(means(1, -7)).loudness(0), 49L);
        // 100, 100 and 0: a tenth is 6
        CHECK.due("silence counts for the mean of all alone", with(means(10, 0, 10)).loudness(0), 100L);
        // 36, 36, 9 and 0: the mean is 20, a tenth of it 2
        CHECK.due("three of four", with(means(6, 3, 0, -6)).loudness(0), (36L + 9 + 36) / 3);
        CHECK.due("all eight", with(means(3, 3, 3, 3, 3, 3, 3, 4)).loudness(0), (7 * 9L + 16) / 8);
        CHECK.due("the last of eight", with(means(0, 0, 0, 0, 0, 0, 0, 16)).loudness(0), 256L);
    }

    private static void testTenthCut() {
        // 36 and 1 once more with 4 for 36: the mean is 2, a tenth of it 0, so that silence counts, too
        CHECK.due("a tenth of 2 is 0", with(means(2, 0)).loudness(0), 2L);
        CHECK.due("a tenth of 8 is 0", with(means(4, 1)).loudness(0), (16L + 1) / 2);
        CHECK.due("a tenth of 8 is 0, with silence", with(means(4, 0)).loudness(0), 8L);
        // 19 and 0: the mean is 9, a tenth of it 0; 20 and 0: the mean is 10, a tenth of it 1
        int[] row = means(4, 0);
        for (int i = 0; i < 11; i++) {
            row[i] = 5;
        }
        CHECK.due("a tenth of 9 is 0", with(row).loudness(0), 9L);
        row[11] = 5;
        row[12] = 5;
        row[13] = 5;
        row[14] = 5;
        CHECK.due("a tenth of 10 is 1", with(row).loudness(0), 20L);
        // 121 and 6: the mean is 63 and a tenth of it 6; by eleven, it would be 5
        int[] six = means(11, 2);
        for (int i = 32; i < 48; i++) {
            six[i] = 3;
        }
        CHECK.due("6 is a tenth of 63", with(six).loudness(0), (121L + 6) / 2);
        // 144 and 6: the mean is 75, a tenth of it 7; by eleven, it would be 6
        int[] seven = means(12, 2);
        for (int i = 32; i < 48; i++) {
            seven[i] = 3;
        }
        CHECK.due("6 is less than a tenth of 75", with(seven).loudness(0), 144L);
    }

    private static void testLoudnessOfNone() {
        Document.says(CHECK, "Returns the loudness, 0 without samples.");
        Maskingtone house = new Maskingtone();
        CHECK.due("of none", house.loudness(0), 0L);
        house.shape(1, 'q', 9, 64, 32);
        CHECK.due("of an empty one", house.loudness(0), 0L);
        CHECK.due("of the other one", house.loudness(1), 81L);
        house.shape(0, 'q', 9, 64, 16);
        CHECK.due("of half a block", house.loudness(0), 40L);
        // the shorter one has silence as far as the longer one goes, which is below a tenth
        house.shape(1, 'q', 9, 64, 32);
        CHECK.due("of half a block and silence", house.loudness(0), 40L);
        house.clear();
        CHECK.due("of none again", house.loudness(1), 0L);
    }

    private static void testLoudest() {
        CHECK.due("the least of samples", with(Build.all(128, -32768)).loudness(0), 1L << 30);
        CHECK.due("the greatest of samples", with(Build.all(128, 32767)).loudness(0), 32767L * 32767L);
        Maskingtone house = new Maskingtone();
        for (int i = 0; i < 8; i++) {
            house.shape(1, 'q', 16000, 64, 32);
        }
        CHECK.due("eight blocks", house.loudness(1), 256000000L);
    }

    private static void testLimitRange() {
        Document.says(CHECK, "- `level`: the level, 1 to 32767");
        Maskingtone house = with(-32768, 32767, 100);
        for (int level : new int[] {0, -1, 32768, Integer.MIN_VALUE, Integer.MAX_VALUE}) {
            CHECK.noArgument("a level of " + level, () -> house.limit(level));
        }
        CHECK.due("as it was", house.peak(0), 32768);
        CHECK.due("the greatest", house.limit(32767), 1);
        CHECK.due("of it", house.sample(0, 0), -32767);
        CHECK.due("of it", house.sample(0, 1), 32766);
        CHECK.due("of it", house.sample(0, 2), 99);
        CHECK.due("the least", house.limit(1), 1);
        CHECK.due("of it", house.sample(0, 0), -1);
        CHECK.due("of it", house.sample(0, 1), 0);
        CHECK.due("of it", house.sample(0, 2), 0);
        CHECK.due("the least again", house.limit(1), 0);
        CHECK.due("of none", new Maskingtone().limit(1), 0);
    }

    private static void testAboveTheLevel() {
        Document.says(CHECK, "Makes each block of a channel, whose greatest sample without sign is above the level, smaller:");
        for (int sign = -1; sign <= 1; sign += 2) {
            Maskingtone house = with(500 * sign, 100);
            CHECK.due("at the level", house.limit(500), 0);
            CHECK.due("as it was", house.sample(0, 1), 100);
            CHECK.due("one above it", house.limit(499), 1);
            CHECK.due("the greatest one", house.sample(0, 0), 499 * sign);
            CHECK.due("another one", house.sample(0, 1), 99);
            CHECK.due("below the level", house.limit(32767), 0);
        }
        CHECK.due("silence", with(0, 0).limit(1), 0);
    }

    private static void testCutTowards0() {
        Document.says(CHECK, "each sample times the level, divided by that greatest one, cut towards 0.");
        Maskingtone house = with(10, 9, -9, 1, -1, 3, -3, 7, -7, -10);
        CHECK.due("limit", house.limit(3), 1);
        int[] want = {3, 2, -2, 0, 0, 0, 0, 2, -2, -3, 0};
        for (int i = 0; i < want.length; i++) {
            CHECK.due("sample " + i, house.sample(0, i), want[i]);
        }
        CHECK.due("samples", house.samples(0), 10);
        Maskingtone loud = with(-32768, 32767, -16384, 16384);
        loud.limit(32766);
        CHECK.due("as great as can be", loud.sample(0, 0), -32766);
        CHECK.due("as great as can be", loud.sample(0, 1), (int) (32767L * 32766 / 32768));
        CHECK.due("half of it", loud.sample(0, 2), -16383);
        CHECK.due("half of it", loud.sample(0, 3), 16383);
    }

    private static void testBlocksBecomeSmaller() {
        Document.says(CHECK, "Returns how many blocks become smaller.");
        Maskingtone house = Build.ofSamples(means(10, 11, 9), means(5, 30));
        CHECK.due("two of five", house.limit(10), 2);
        int[][] want = {{10, 10, 9}, {5, 10, 0}};
        for (int channel = 0; channel < 2; channel++) {
            for (int block = 0; block < 3; block++) {
                CHECK.due("the first of a block", house.sample(channel, 32 * block), want[channel][block]);
                CHECK.due("the last of a block", house.sample(channel, 32 * block + 31), want[channel][block]);
            }
        }
        CHECK.due("none of five", house.limit(10), 0);
        CHECK.due("all but silence", house.limit(4), 5);
        Maskingtone eight = new Maskingtone();
        for (int i = 0; i < 8; i++) {
            eight.shape(0, 'i', 900, 64, 32);
            eight.shape(1, 'i', 800, 64, 32);
        }
        CHECK.due("all of one", eight.limit(800), 8);
        CHECK.due("all of both", eight.limit(799), 16);
        // a block that is not full
        Maskingtone part = with(Build.all(33, 8));
        CHECK.due("a block of one sample", part.limit(7), 2);
        CHECK.due("its sample", part.sample(0, 32), 7);
        CHECK.due("as many as were", part.samples(0), 33);
    }

    private static void testChannels() {
        Maskingtone house = with(1, 2);
        for (int channel : new int[] {-1, 2, Integer.MIN_VALUE, Integer.MAX_VALUE}) {
            CHECK.noPlace("peak of " + channel, () -> house.peak(channel));
            CHECK.noPlace("truePeak of " + channel, () -> house.truePeak(channel));
            CHECK.noPlace("loudness of " + channel, () -> house.loudness(channel));
            CHECK.noPlace("samples of " + channel, () -> house.samples(channel));
        }
    }

    private static void testRatio() {
        Document.says(CHECK, "Throws `ArithmeticException` if there are no samples");
        Document.says(CHECK, "Returns the bits of all pairs divided by 16 times the samples of all blocks of both channels, both converted to float.");
        Maskingtone house = new Maskingtone();
        CHECK.throwing("of none", ArithmeticException.class, () -> house.ratio());
        house.shape(1, 'z', 0, 2, 1);
        CHECK.due("of one sample", house.ratio(), 77f / 1024f);
        house.shape(1, 'n', 16000, 3, 64);
        CHECK.due("of three blocks", house.ratio(), (float) house.allBits() / 3072f);
        house.clear();
        CHECK.throwing("of none again", ArithmeticException.class, () -> house.ratio());
        for (int i = 0; i < 4; i++) {
            house.shape(0, 'n', 16000, 3 + i, 64);
            house.shape(1, 'n', 16000, 9 + i, 64);
        }
        CHECK.due("of all", house.ratio(), (float) house.allBits() / 8192f);
    }

    private static void testMeanNoise() {
        Document.says(CHECK, "Throws `ArithmeticException` if nothing was coded");
        Document.says(CHECK, "Returns the sum divided by their number, both converted to double.");
        Maskingtone house = new Maskingtone();
        CHECK.throwing("of none", ArithmeticException.class, () -> house.meanNoise());
        house.shape(0, 'z', 0, 2, 33);
        CHECK.throwing("of none coded", ArithmeticException.class, () -> house.meanNoise());
        house.code();
        CHECK.due("of silence", house.meanNoise(), 0.0);
        Maskingtone one = Build.exact(2, Build.row(3, 4, 0, 4), EMPTY);
        one.setQuiet(0, 1);
        one.setQuiet(1, 1);
        one.code();
        int sum = 0;
        for (int frame = 0; frame < 3; frame++) {
            for (int row = 0; row < 6; row++) {
                sum += one.noise(frame, row / 3, row % 3);
            }
        }
        CHECK.due("two bands of eighteen", sum, 2);
        CHECK.due("a ninth", one.meanNoise(), 2.0 / 18.0);
        one.lose(0);
        CHECK.due("as it was told", one.meanNoise(), 2.0 / 18.0);
        one.setRate(100, 0);
        CHECK.throwing("of what was taken away", ArithmeticException.class, () -> one.meanNoise());
    }

    private static void testSound() {
        Document.says(CHECK, "what is decoded from all frames as they were coded is, band by band, off by the noise that was told; sections are the least; no frame but one that cannot be smaller takes more than it may.");
        CHECK.due("of none", new Maskingtone().isSound(), true);
        Maskingtone house = new Maskingtone();
        house.shape(0, 'n', 16000, 5, 64);
        house.shape(1, 'n', 16000, 6, 40);
        CHECK.due("of what is not coded", house.isSound(), true);
        for (int levels = 1; levels <= 4; levels++) {
            for (int rate : new int[] {100, 113, 133, 250, 900, 4000}) {
                house.setLevels(levels);
                house.setRate(rate, rate);
                house.setNoise(rate % 2 == 0);
                house.code();
                CHECK.due("at " + rate + " and " + levels, house.isSound(), true);
                house.lose(0);
                house.turn(1, 99);
                CHECK.due("with frames that are not whole", house.isSound(), true);
            }
        }
    }
}
