import java.util.Arrays;

/** The edges in the paragraphs "Lines" and "Masks" and in the promises 17 to 22. */
public final class LineEdgesTest {
    private static final Check CHECK = new Check();
    private static final int[] EMPTY = {};

    public static void main(String[] args) {
        testLevels();
        testNeighbourNotThere();
        testWholeChannel();
        testRoundedDown();
        testPlaceToBand();
        testAnewAtTheEdges();
        testStrengthCut();
        testGreatestStrength();
        testEachPartOfTheMask();
        testMaskAtTheEnds();
        testMaskOfNone();
        testFarAway();
        testQuiet();
        testBands();
        testPlaces();
        CHECK.end();
    }

    private static void testLevels() {
        Document.says(CHECK, "- `levels`: the levels, 1 to 4; 3 at first");
        Maskingtone house = new Maskingtone();
        CHECK.due("at first", house.setLevels(1), 3);
        CHECK.due("the least", house.setLevels(4), 1);
        CHECK.noArgument("0", () -> house.setLevels(0));
        CHECK.noArgument("5", () -> house.setLevels(5));
        CHECK.noArgument("-1", () -> house.setLevels(-1));
        CHECK.noArgument("the greatest of all", () -> house.setLevels(Integer.MAX_VALUE));
        CHECK.noArgument("the least of all", () -> house.setLevels(Integer.MIN_VALUE));
        CHECK.due("the greatest", house.setLevels(2), 4);
        CHECK.due("the same", house.setLevels(2), 2);
    }

    private static void dueLines(String what, Maskingtone house, int from, int... want) {
        for (int i = 0; i < want.length; i++) {
            CHECK.due(what + ", line " + (from + i), house.line(0, from + i), want[i]);
            CHECK.due(what + ", anew " + (from + i), house.lineAnew(0, from + i), want[i]);
        }
    }

    private static Maskingtone one(int levels, int place, int value) {
        int[] row = new int[32];
        row[place] = value;
        Maskingtone house = Build.ofSamples(row, EMPTY);
        house.setLevels(levels);
        return house;
    }

    /** Of a row of the same amount, nothing is left but that amount, if its ends have their neighbours. */
    private static void testNeighbourNotThere() {
        Document.says(CHECK, "A neighbour that is not there in the whole channel is the one on the other side.");
        for (int levels = 1; levels <= 4; levels++) {
            for (int amount : new int[] {1, -1, 77, 32767, -32768}) {
                Maskingtone house = Build.ofSamples(Build.all(32, amount), EMPTY);
                house.setLevels(levels);
                for (int i = 0; i < 32; i++) {
                    int want = i % (1 << levels) == 0 ? amount : 0;
                    dueLines("the same at " + levels + " levels", house, i, want);
                }
            }
            Maskingtone longest = new Maskingtone();
            for (int block = 0; block < 8; block++) {
                longest.shape(0, 'q', 500, 64, 32);
            }
            longest.setLevels(levels);
            for (int i = 0; i < 256; i++) {
                CHECK.due("the same, eight blocks", longest.line(0, i), i % (1 << levels) == 0 ? 500 : 0);
            }
        }
        dueLines("ahead of the first", one(1, 1, 16), 0, 8, 16, 4);
        dueLines("behind the last", one(1, 30, 16), 29, -8, 16 + ((-8 - 16 + 2) >> 2), -16);
        // the last one of the level 2 is 30, and of the neighbours 28 and 32 only 28 is there
        Maskingtone two = Build.ofLines(2, Build.row(1), EMPTY);
        for (int i = 26; i < 32; i++) {
            two.setSample(0, i, new int[] {0, 20, 40, 40, 40, 40}[i - 26]);
        }
        dueLines("behind the last of the level 2", two, 28, 40 + ((-20 + 2) >> 2), 0, 0, 0);
    }

    private static void testWholeChannel() {
        // the end of a block is no end of the channel
        int[] row = new int[64];
        row[32] = 16;
        Maskingtone house = Build.ofSamples(row, EMPTY);
        house.setLevels(1);
        dueLines("at the beginning of a block", house, 29, 0, -2, -8, 12, -8, -2, 0);
        row[32] = 0;
        row[31] = 16;
        Maskingtone last = Build.ofSamples(row, EMPTY);
        last.setLevels(1);
        dueLines("at the end of a block", last, 29, 0, 4, 16, 4, 0);
        // the end of the samples is none either, as there is 0 further on
        Maskingtone cut = Build.ofSamples(Build.all(30, 16), EMPTY);
        cut.setLevels(1);
        dueLines("behind the last sample", cut, 28, 16 + ((8 + 2) >> 2), 16 - 8, (8 + 2) >> 2, 0);
        // and the other channel makes it longer
        Maskingtone longer = Build.ofSamples(Build.all(32, 16), Build.all(33, 1));
        longer.setLevels(1);
        dueLines("as long as the longer one", longer, 30, 16 + ((8 + 2) >> 2), 8, (8 + 2) >> 2, 0);
    }

    private static void testRoundedDown() {
        Document.says(CHECK, "loses the sum of both neighbours among these places, divided by 2, rounded down");
        Document.says(CHECK, "gains the sum of both neighbours plus 2, divided by 4, rounded down.");
        dueLines("-1 at 8", one(1, 8, -1), 6, 0, 1, 0, 1, 0);
        dueLines("1 at 8", one(1, 8, 1), 6, 0, 0, 1, 0, 0);
        dueLines("-1 at 9", one(1, 9, -1), 8, 0, -1, 0);
        dueLines("-2 at 9", one(1, 9, -2), 8, 0, -2, 0);
        dueLines("-3 at 9", one(1, 9, -3), 8, -1, -3, -1);
        dueLines("-6 at 9", one(1, 9, -6), 8, -1, -6, -1);
        dueLines("-7 at 9", one(1, 9, -7), 8, -2, -7, -2);
        dueLines("1 at 9", one(1, 9, 1), 8, 0, 1, 0);
        dueLines("2 at 9", one(1, 9, 2), 8, 1, 2, 1);
    }

    private static void testPlaceToBand() {
        Document.says(CHECK, "A line at the place i is of the band that is the levels less how often 2 divides i, 0 at least; i as 0 is of the band 0.");
        for (int levels = 1; levels <= 4; levels++) {
            int[] counts = new int[levels + 1];
            for (int i = 0; i < 32; i++) {
                counts[Build.bandOf(levels, i)]++;
            }
            for (int i = 0; i < 64; i++) {
                int[] lines = new int[64];
                lines[i] = 1600;
                Maskingtone house = Build.ofLines(levels, lines, EMPTY);
                CHECK.due("line", house.line(0, i), 1600);
                for (int band = 0; band <= levels; band++) {
                    boolean isIts = band == Build.bandOf(levels, i % 32);
                    String what = "the place " + i + " and the band " + band + " of " + levels;
                    CHECK.due(what, house.strength(0, i / 32, band), isIts ? 1600 / counts[band] : 0);
                    CHECK.due(what + " in the other frame", house.strength(0, 1 - i / 32, band), 0);
                }
            }
        }
    }

    private static void testAnewAtTheEdges() {
        Document.says(CHECK, "Returns the same, found from samples by asking for what it is made of.");
        for (int levels = 1; levels <= 4; levels++) {
            for (int blocks = 1; blocks <= 2; blocks++) {
                Maskingtone house = new Maskingtone();
                for (int i = 0; i < blocks; i++) {
                    house.shape(1, 'n', 16000, 9 + i, 32);
                }
                house.setSample(1, 0, 32767);
                house.setSample(1, 1, -32768);
                house.setSample(1, 31, -32768);
                house.setLevels(levels);
                long[] row = new long[32 * blocks];
                for (int i = 0; i < row.length; i++) {
                    CHECK.due("anew at " + i, house.lineAnew(1, i), house.line(1, i));
                    row[i] = house.line(1, i);
                }
                long[] back = Model.turnedBack(row, levels);
                for (int i = 0; i < row.length; i++) {
                    CHECK.due("turned back at " + i, back[i], (long) house.sample(1, i));
                }
            }
        }
    }

    private static void testStrengthCut() {
        Document.says(CHECK, "The strength of a band in a frame of a channel is the sum of its lines without signs, divided by their number, cut.");
        for (int levels = 1; levels <= 4; levels++) {
            for (int band = 0; band <= levels; band++) {
                int count = 0;
                int first = -1;
                int[] lines = Build.band(levels, band, -1);
                for (int i = 31; i >= 0; i--) {
                    count += lines[i] != 0 ? 1 : 0;
                    first = lines[i] != 0 ? i : first;
                }
                CHECK.due("-1 each", Build.ofLines(levels, lines, EMPTY).strength(0, 0, band), 1);
                lines[first] = 0;
                CHECK.due("one less", Build.ofLines(levels, lines, EMPTY).strength(0, 0, band), 0);
                lines[first] = count;
                CHECK.due("one less than twice", Build.ofLines(levels, lines, EMPTY).strength(0, 0, band), 1);
                lines[first] = -count - 1;
                CHECK.due("just twice, of the channel 1", Build.ofLines(levels, EMPTY, lines).strength(1, 0, band), 2);
                CHECK.due("of the channel 0 then", Build.ofLines(levels, EMPTY, lines).strength(0, 0, band), 0);
            }
        }
    }

    private static void testGreatestStrength() {
        int[] row = new int[32];
        for (int levels = 1; levels <= 4; levels++) {
            for (int i = 0; i < 32; i++) {
                row[i] = (i >> (levels - 1)) % 2 == 0 ? -32768 : 32767;
            }
            Maskingtone house = Build.ofSamples(row, EMPTY);
            house.setLevels(levels);
            for (int band = 0; band <= levels; band++) {
                long sum = 0;
                int count = 0;
                for (int i = 0; i < 32; i++) {
                    if (Build.bandOf(levels, i) == band) {
                        sum += Math.abs((long) house.line(0, i));
                        count++;
                    }
                }
                CHECK.due("strength " + band + " of " + levels, house.strength(0, 0, band), (int) (sum / count));
            }
        }
        Maskingtone turns = Build.ofSamples(Build.all(32, 0), EMPTY);
        for (int i = 0; i < 32; i++) {
            turns.setSample(0, i, i % 2 == 0 ? -32768 : 32767);
        }
        turns.setLevels(1);
        CHECK.due("line", turns.line(0, 1), 65535);
        CHECK.due("strength", turns.strength(0, 0, 1), 65535);
        CHECK.due("mask", turns.mask(0, 0, 1), 8191);
    }

    /** Strengths of a band, of that below and above it in the frame 1, and of it in the frames 0 and 2. */
    private static Maskingtone parts(int levels, int band, int[] strengths) {
        int[] lines = new int[96];
        int[] block = new int[32];
        Build.addBand(block, levels, band, strengths[0]);
        Build.addBand(block, levels, band - 1, strengths[1]);
        Build.addBand(block, levels, band + 1, strengths[2]);
        System.arraycopy(Build.band(levels, band, strengths[3]), 0, lines, 0, 32);
        System.arraycopy(block, 0, lines, 32, 32);
        System.arraycopy(Build.band(levels, band, strengths[4]), 0, lines, 64, 32);
        Maskingtone house = Build.ofLines(levels, lines, EMPTY);
        house.setQuiet(band, strengths[5]);
        return house;
    }

    private static void testEachPartOfTheMask() {
        Document.says(CHECK, "Its mask is the greatest of: what is quiet, told by bands, at first 2 for all; the strength divided by 8; that of the next lower band divided by 16; that of the next higher one divided by 32; the strength of the same band in the frame ahead divided by 32, and in the frame behind divided by 64; all cut.");
        int[] divisors = {8, 16, 32, 32, 64, 1};
        for (int levels = 1; levels <= 4; levels++) {
            for (int band = 0; band <= levels; band++) {
                int[] all = new int[6];
                for (int part = 0; part < 6; part++) {
                    all[part] = 7 * divisors[part] - 1;
                }
                String what = "mask " + band + " of " + levels;
                CHECK.due(what + ", all cut to 6", parts(levels, band, all).mask(0, 1, band), 6);
                for (int part = 0; part < 6; part++) {
                    int[] most = all.clone();
                    most[part]++;
                    boolean isThere = !(part == 1 && band == 0) && !(part == 2 && band == levels);
                    CHECK.due(what + ", part " + part, parts(levels, band, most).mask(0, 1, band), isThere ? 7 : 6);
                    int[] alone = new int[6];
                    alone[part] = divisors[part];
                    CHECK.due(what + ", alone", parts(levels, band, alone).mask(0, 1, band), isThere ? 1 : 0);
                    alone[part]--;
                    CHECK.due(what + ", cut to 0", parts(levels, band, alone).mask(0, 1, band), 0);
                }
            }
        }
    }

    /** Ahead of the first frame and behind the last one there is none. */
    private static void testMaskAtTheEnds() {
        for (int levels = 1; levels <= 4; levels++) {
            Maskingtone house = parts(levels, levels, new int[] {0, 0, 0, 640, 640, 0});
            CHECK.due("of the first, its own", house.mask(0, 0, levels), 80);
            CHECK.due("of the last, its own", house.mask(0, 2, levels), 80);
            CHECK.due("of the one between", house.mask(0, 1, levels), 20);
            CHECK.due("of the other channel", house.mask(1, 1, levels), 0);
            CHECK.due("of the other channel, the band above", house.mask(1, 1, 0), 2);
        }
        int[] lines = new int[256];
        Arrays.fill(lines, 1, 2, 16 * 640);
        Maskingtone first = Build.ofLines(1, lines, EMPTY);
        first.setQuiet(1, 0);
        CHECK.due("strength", first.strength(0, 0, 1), 640);
        CHECK.due("of the second", first.mask(0, 1, 1), 20);
        CHECK.due("of the last but one", first.mask(0, 6, 1), 0);
        CHECK.due("of the last one", first.mask(0, 7, 1), 0);
        lines[1] = 0;
        lines[255] = 16 * 640;
        Maskingtone last = Build.ofLines(1, lines, EMPTY);
        last.setQuiet(1, 0);
        CHECK.due("strength", last.strength(0, 7, 1), 640);
        CHECK.due("of the first one", last.mask(0, 0, 1), 0);
        CHECK.due("of the last but one", last.mask(0, 6, 1), 10);
        CHECK.due("of the last one", last.mask(0, 7, 1), 80);
    }

    private static void testMaskOfNone() {
        Maskingtone house = new Maskingtone();
        house.shape(1, 'z', 0, 2, 1);
        house.setLevels(4);
        for (int band = 0; band <= 4; band++) {
            CHECK.due("at first", house.mask(0, 0, band), 2);
            house.setQuiet(band, 0);
            CHECK.due("0 at least", house.mask(0, 0, band), 0);
            house.setQuiet(band, 1000);
            CHECK.due("1000 at most", house.mask(1, 0, band), 1000);
            CHECK.due("of the other bands", house.mask(1, 0, (band + 1) % 5), band < 4 ? 2 : 1000);
        }
    }

    /** Neither two bands nor two frames away anything masks. */
    private static void testFarAway() {
        Maskingtone bands = Build.ofLines(4, Build.band(4, 2, 1280), EMPTY);
        int[] want = {2, 40, 160, 80, 2};
        for (int band = 0; band <= 4; band++) {
            CHECK.due("mask " + band, bands.mask(0, 0, band), want[band]);
        }
        int[] lines = new int[160];
        System.arraycopy(Build.band(4, 2, 1280), 0, lines, 64, 32);
        Maskingtone frames = Build.ofLines(4, lines, EMPTY);
        int[] due = {2, 20, 160, 40, 2};
        for (int frame = 0; frame < 5; frame++) {
            CHECK.due("mask in the frame " + frame, frames.mask(0, frame, 2), due[frame]);
        }
        CHECK.due("the band above in the next frame", frames.mask(0, 3, 3), 2);
        CHECK.due("the band below in the next frame", frames.mask(0, 3, 1), 2);
    }

    private static void testQuiet() {
        Document.says(CHECK, "- `quiet`: the amount, 0 to 1000");
        Document.says(CHECK, "Throws `IllegalArgumentException` if there is no such band, 0 to 4, or the amount is out of range");
        for (int levels = 1; levels <= 4; levels++) {
            Maskingtone house = new Maskingtone();
            house.setLevels(levels);
            for (int band = 0; band <= 4; band++) {
                int own = band;
                CHECK.due("at first", house.setQuiet(band, 0), 2);
                CHECK.due("the least", house.setQuiet(band, 1000), 0);
                CHECK.noArgument("1001", () -> house.setQuiet(own, 1001));
                CHECK.noArgument("-1", () -> house.setQuiet(own, -1));
                CHECK.noArgument("the greatest of all", () -> house.setQuiet(own, Integer.MAX_VALUE));
                CHECK.due("the greatest", house.setQuiet(band, 1000), 1000);
            }
            for (int band : new int[] {-1, 5, Integer.MIN_VALUE, Integer.MAX_VALUE}) {
                CHECK.noArgument("the band " + band, () -> house.setQuiet(band, 5));
            }
        }
    }

    private static void testBands() {
        for (int levels = 1; levels <= 4; levels++) {
            Maskingtone house = new Maskingtone();
            house.shape(0, 'z', 0, 2, 1);
            house.setLevels(levels);
            CHECK.due("the last band", house.strength(0, 0, levels), 0);
            CHECK.due("the last band", house.mask(1, 0, levels), 2);
            for (int band : new int[] {-1, levels + 1, Integer.MIN_VALUE, Integer.MAX_VALUE}) {
                CHECK.noArgument("strength of " + band, () -> house.strength(0, 0, band));
                CHECK.noArgument("mask of " + band, () -> house.mask(0, 0, band));
                CHECK.noPlace("no block, no band", () -> house.strength(0, 1, band));
                CHECK.noPlace("no block, no band", () -> house.mask(0, 1, band));
                CHECK.noPlace("no channel, no band", () -> house.strength(2, 0, band));
                CHECK.noPlace("no channel, no band", () -> house.mask(-1, 0, band));
            }
        }
    }

    private static void testPlaces() {
        Maskingtone house = new Maskingtone();
        CHECK.noPlace("line of none", () -> house.line(0, 0));
        CHECK.noPlace("lineAnew of none", () -> house.lineAnew(0, 0));
        CHECK.noPlace("strength of none", () -> house.strength(0, 0, 0));
        CHECK.noPlace("mask of none", () -> house.mask(0, 0, 0));
        house.shape(1, 'q', 5, 64, 33);
        for (int channel : new int[] {-1, 2, Integer.MIN_VALUE, Integer.MAX_VALUE}) {
            CHECK.noPlace("line of " + channel, () -> house.line(channel, 0));
            CHECK.noPlace("lineAnew of " + channel, () -> house.lineAnew(channel, 0));
            CHECK.noPlace("strength of " + channel, () -> house.strength(channel, 0, 0));
            CHECK.noPlace("mask of " + channel, () -> house.mask(channel, 0, 0));
        }
        for (int index : new int[] {-1, 64, Integer.MIN_VALUE, Integer.MAX_VALUE}) {
            CHECK.noPlace("line at " + index, () -> house.line(0, index));
            CHECK.noPlace("lineAnew at " + index, () -> house.lineAnew(0, index));
        }
        for (int block : new int[] {-1, 2, Integer.MIN_VALUE, Integer.MAX_VALUE}) {
            CHECK.noPlace("strength in " + block, () -> house.strength(0, block, 0));
            CHECK.noPlace("mask in " + block, () -> house.mask(0, block, 0));
        }
        CHECK.due("the last line", house.line(1, 63), 0);
        CHECK.due("the last line anew", house.lineAnew(1, 63), 0);
        CHECK.due("the last strength", house.strength(1, 1, 3), 0);
        CHECK.due("the last mask", house.mask(1, 1, 3), 2);
    }
}
