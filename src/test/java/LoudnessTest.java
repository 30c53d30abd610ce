/** Promises 53 to 56: peak, truePeak, loudness, limit. */
public final class LoudnessTest {
    private static final Check CHECK = new Check();

    public static void main(String[] args) {
        testPeak();
        testTruePeak();
        testLoudness();
        testLimit();
        testWrong();
        CHECK.end();
    }

    private static Maskingtone with(int... values) {
        Maskingtone house = new Maskingtone();
        house.shape(0, 'z', 0, 2, values.length);
        for (int i = 0; i < values.length; i++) {
            house.setSample(0, i, values[i]);
        }
        return house;
    }

    private static void testPeak() {
        CHECK.due("peak of none", new Maskingtone().peak(1), 0);
        CHECK.due("peak", with(3, -8, 7).peak(0), 8);
        CHECK.due("peak", with(3, 9, -8, 7).peak(0), 9);
        CHECK.due("peak of the other", with(3, 9, -8, 7).peak(1), 0);
        CHECK.due("the greatest", with(32767, -32768).peak(0), 32768);
        Maskingtone full = new Maskingtone();
        for (int i = 0; i < 4; i++) {
            full.shape(1, 'z', 0, 2, 64);
        }
        full.setSample(1, 255, -5);
        CHECK.due("the last one", full.peak(1), 5);
        CHECK.due("the last one", full.truePeak(1), 5);
    }

    private static void testTruePeak() {
        CHECK.due("truePeak of none", new Maskingtone().truePeak(0), 0);
        CHECK.due("between two", with(0, 1000, 1000, 0).truePeak(0), 18000 / 16);
        CHECK.due("less what is besides", with(100, 1000, 1000, 60).truePeak(0), (18000 - 160) / 16);
        CHECK.due("more by what is besides", with(-100, 1000, 1000, -60).truePeak(0), (18000 + 160) / 16);
        CHECK.due("none ahead", with(1000, 1000, -60).truePeak(0), (18000 + 60) / 16);
        CHECK.due("rounded down", with(0, -1000, -1001, 0).truePeak(0), 1126);
        CHECK.due("rounded down", with(0, 1000, 1001, 0).truePeak(0), 1125);
        CHECK.due("the first one by itself", with(1000, 0, 0).truePeak(0), 1000);
        CHECK.due("a sample by itself", with(0, 0, -1000).truePeak(0), 1000);
        int[] ends = new int[32];
        ends[30] = 1000;
        ends[31] = 1000;
        CHECK.due("none behind", with(ends).truePeak(0), 1125);
        ends[29] = -160;
        CHECK.due("none behind", with(ends).truePeak(0), 1135);
        CHECK.due("above what a sample can be", with(-32768, 32767, 32767, -32768).truePeak(0), (18 * 32767 + 65536) / 16);
    }

    private static void testLoudness() {
        CHECK.due("loudness of none", new Maskingtone().loudness(0), 0L);
        Maskingtone house = new Maskingtone();
        house.shape(0, 'q', 100, 64, 32);
        CHECK.due("loudness", house.loudness(0), 10000L);
        CHECK.due("of the other", house.loudness(1), 0L);
        house.shape(0, 'q', 10, 64, 32);
        CHECK.due("without the quiet one", house.loudness(0), 10000L);
        house.shape(0, 'q', 40, 64, 32);
        // means 10000, 100, 1600; a tenth of 3900 is 390
        CHECK.due("without the quiet one", house.loudness(0), 5800L);
        house.setSample(0, 32, 101);
        house.setSample(0, 64, 0);
        // 10000, (31 * 100 + 10201) / 32 = 415, 1550; a tenth of 3988 is 398
        CHECK.due("with it", house.loudness(0), (10000L + 415 + 1550) / 3);
        Maskingtone tenth = new Maskingtone();
        for (int value : new int[] {100, 100, 100, 100, 100, 100, 100, 31}) {
            tenth.shape(1, 'q', value, 64, 32);
        }
        // the mean is 70961 / 8 = 8870, of which a tenth is 887
        CHECK.due("at least a tenth", tenth.loudness(1), 70961L / 8);
        for (int i = 224; i < 256; i++) {
            tenth.setSample(1, i, 0);
        }
        CHECK.due("without silence", tenth.loudness(1), 10000L);
        Maskingtone loud = new Maskingtone();
        for (int i = 0; i < 4; i++) {
            loud.shape(0, 'z', 0, 2, 64);
        }
        for (int i = 0; i < 256; i++) {
            loud.setSample(0, i, -32768);
        }
        CHECK.due("the loudest", loud.loudness(0), 1L << 30);
        Maskingtone low = new Maskingtone();
        low.shape(0, 'i', 5, 64, 32);
        CHECK.due("a mean of 0", low.loudness(0), 0L);
        Maskingtone ones = new Maskingtone();
        ones.shape(0, 'q', 1, 2, 31);
        CHECK.due("a mean of 31 / 32", ones.loudness(0), 0L);
        ones.shape(0, 'q', 1, 2, 1);
        CHECK.due("a mean of 1", ones.loudness(0), 1L);
    }

    private static void testLimit() {
        Maskingtone house = new Maskingtone();
        house.shape(0, 'q', 1000, 4, 32);
        house.shape(0, 'q', 900, 4, 32);
        house.shape(1, 't', 1600, 64, 40);
        house.setSample(0, 3, -7);
        CHECK.due("limit", house.limit(900), 2);
        CHECK.due("smaller", house.sample(0, 0), 900);
        CHECK.due("smaller", house.sample(0, 2), -900);
        CHECK.due("cut towards 0", house.sample(0, 3), -7 * 900 / 1000);
        CHECK.due("as it was", house.sample(0, 32), 900);
        CHECK.due("smaller", house.sample(1, 0), -900);
        CHECK.due("smaller", house.sample(1, 17), (2 * 1600 * 17 / 64 - 1600) * 900 / 1600);
        CHECK.due("as it was", house.sample(1, 32), 0);
        CHECK.due("limit again", house.limit(900), 0);
        CHECK.due("samples", house.samples(1), 40);
        CHECK.due("limit to 1", house.limit(1), 4);
        CHECK.due("peak", house.peak(0), 1);
        Maskingtone greatest = with(-32768, 32767);
        CHECK.due("limit", greatest.limit(32767), 1);
        CHECK.due("smaller", greatest.sample(0, 0), -32767);
        CHECK.due("smaller", greatest.sample(0, 1), 32766);
        CHECK.due("limit", greatest.limit(32767), 0);
        CHECK.due("limit of none", new Maskingtone().limit(5), 0);
    }

    private static void testWrong() {
        Maskingtone house = with(5, 6);
        for (int channel : new int[] {-1, 2}) {
            CHECK.noPlace("peak", () -> house.peak(channel));
            CHECK.noPlace("truePeak", () -> house.truePeak(channel));
            CHECK.noPlace("loudness", () -> house.loudness(channel));
        }
        CHECK.noArgument("level 0", () -> house.limit(0));
        CHECK.noArgument("level -1", () -> house.limit(-1));
        CHECK.noArgument("level 32768", () -> house.limit(32768));
        CHECK.due("nothing changed", house.peak(0), 6);
    }
}
