/** The edges in the paragraphs "Frames" and "Coded", with the promises 26, 28 to 31 and 35 to 39. */
public final class FrameEdgesTest {
    private static final Check CHECK = new Check();
    private static final int[] EMPTY = {};
    private static final int LEAST_OF_ONE_LEVEL = 16 + 4 * 5 + 5 + 64 + 8;

    public static void main(String[] args) {
        testRateRange();
        testCodeOfNone();
        testNumbers();
        testSectionsAnew();
        testCheckModulo();
        testFrameBits();
        testFits();
        testReservoirEmptyAtFirst();
        testReservoirRoom();
        testReservoirUsed();
        testReservoirEmptied();
        testFirstOfSeveral();
        testMostBits();
        testBelow15();
        testNoiseIsNotRaised();
        testLastBandTold();
        testLastOfAll();
        testNoneLeft();
        testBitsInItsSection();
        testTakesAway();
        testTakesNothingAway();
        testNoFrames();
        testPlaces();
        CHECK.end();
    }

    private static void testRateRange() {
        Document.says(CHECK, "- `rate`: the bits for a frame, 100 to 4000");
        Document.says(CHECK, "- `room`: the room of the reservoir, 0 to 8000");
        Document.says(CHECK, "The rate is 100 to 4000 bits for a frame, 4000 at first.");
        Maskingtone house = new Maskingtone();
        CHECK.due("at first", house.setRate(100, 0), 4000);
        CHECK.due("the least", house.setRate(4000, 8000), 100);
        for (int rate : new int[] {99, 4001, 0, -100, Integer.MIN_VALUE, Integer.MAX_VALUE}) {
            CHECK.noArgument("a rate of " + rate, () -> house.setRate(rate, 0));
        }
        for (int room : new int[] {-1, 8001, Integer.MIN_VALUE, Integer.MAX_VALUE}) {
            CHECK.noArgument("a room of " + room, () -> house.setRate(100, room));
        }
        CHECK.due("the greatest", house.setRate(4000, 8000), 4000);
        house.shape(0, 'z', 0, 2, 64);
        house.shape(0, 'z', 0, 2, 64);
        house.code();
        CHECK.due("the room is the greatest", house.reservoir(0), 4000 - 133);
        CHECK.due("the room is the greatest", house.reservoir(1), 2 * (4000 - 133));
        CHECK.due("the room is the greatest", house.reservoir(2), 8000);
    }

    private static void testCodeOfNone() {
        Document.says(CHECK, "Throws `NoSuchElementException` if there are no samples");
        Maskingtone house = new Maskingtone();
        CHECK.noElement("no samples", () -> house.code());
        CHECK.due("frames", house.frames(), 0);
        house.shape(1, 'z', 0, 2, 1);
        CHECK.due("one sample", house.code(), 133);
        CHECK.due("frames", house.frames(), 1);
        CHECK.due("coded again", house.code(), 133);
        house.clear();
        CHECK.noElement("no samples again", () -> house.code());
        CHECK.due("frames", house.frames(), 0);
    }

    private static void testNumbers() {
        Document.says(CHECK, "A frame takes 8 bits as a sign, 167, 8 for its number");
        Maskingtone house = new Maskingtone();
        for (int i = 0; i < 4; i++) {
            house.shape(0, 'z', 0, 2, 64);
        }
        CHECK.due("code", house.code(), 8 * 133);
        CHECK.due("frames", house.frames(), 8);
        for (int frame = 0; frame < 8; frame++) {
            StringBuilder text = new StringBuilder();
            for (int i = 0; i < 16; i++) {
                text.append(house.frameBit(frame, i));
            }
            CHECK.due("sign and number", text.toString(), "10100111" + Told.binary(frame, 8));
            CHECK.due("sections", house.sections(frame), 1);
        }
        CHECK.noPlace("frame 8", () -> house.frameBits(8));
    }

    /** Sections are those of the frame as it is sent, not those that were tried on the way. */
    private static void testSectionsAnew() {
        Document.says(CHECK, "Returns how many sections a frame has.");
        Maskingtone house = rows(1);
        int bits = house.code();
        CHECK.due("sections", house.sections(0), 2);
        house.code();
        CHECK.due("sections when coded again", house.sections(0), 2);
        house.setRate(bits - 1, 0);
        house.code();
        // the numbers 6 and 4 by turns, of 5 and 4 by 2, are told by the book 1, too
        CHECK.due("step", house.step(0, 0, 0), 2);
        CHECK.due("sections by the greater step", house.sections(0), 2);
        CHECK.due("sectionBits by the greater step", house.sectionBits(0), 5 + 16 * 3 + 5 + 48);
        CHECK.due("the first book", house.bookOf(0, 0, 0), 1);
        CHECK.due("the second book", house.bookOf(0, 0, 1), 0);
        house.setRate(100, 0);
        house.code();
        CHECK.due("sections of nothing", house.sections(0), 1);
        CHECK.due("the first book of nothing", house.bookOf(0, 0, 0), 0);
    }

    /** At one level, lines of 4 and 5 by turns: each takes 21 bits by the book 1. */
    private static Maskingtone longFrame() {
        int[] lines = new int[32];
        for (int i = 0; i < 32; i++) {
            lines[i] = i / 2 % 2 == 0 ? 5 : 4;
        }
        Maskingtone house = Build.exact(1, lines, EMPTY);
        house.code();
        return house;
    }

    private static void testCheckModulo() {
        Document.says(CHECK, "and 8 for its check, which is the sum, over all its bits ahead that are 1, of their places from 1 on modulo 251, modulo 256.");
        String bits = Told.bits(() -> longFrame(), 0);
        CHECK.due("long enough to go round twice", bits.length(), 16 + 20 + 5 + 32 * 21 + 5 + 32 + 8);
        int end = bits.length() - 8;
        CHECK.due("its check", bits.substring(end), Told.check(bits.substring(0, end)));
        // the places 251, 502 and 753 have no weight, so that none sees them turned
        for (int place : new int[] {251, 502}) {
            Maskingtone house = longFrame();
            house.turn(0, place - 1);
            CHECK.noElement("the place " + place, () -> house.fault(0, 0));
        }
        for (int place : new int[] {250, 252, 253, 501, 503, 713}) {
            Maskingtone house = longFrame();
            house.turn(0, place - 1);
            CHECK.due("the place " + place, house.fault(0, 1), 'c');
        }
        // the place 251 is the last bit of the tenth line: the number 8 becomes 7, and 4 becomes -4
        Maskingtone turned = longFrame();
        CHECK.due("bookOf", turned.bookOf(0, 0, 0), 1);
        CHECK.due("line", turned.line(0, 18), 4);
        turned.turn(0, 250);
        CHECK.due("noise", turned.noise(0, 0, 0), 0);
        CHECK.due("noiseAnew, 8 by 16 lines", turned.noiseAnew(0, 0, 0), 1);
        CHECK.due("repair", turned.repair(0), 0);
        CHECK.due("noiseAnew", turned.noiseAnew(0, 0, 0), 0);
    }

    private static void testFrameBits() {
        Document.says(CHECK, "Returns a bit of a frame, as it is now.");
        Maskingtone house = Build.exact(1, new int[64], EMPTY);
        house.code();
        int bits = house.frameBits(1);
        CHECK.due("frameBits", bits, LEAST_OF_ONE_LEVEL);
        CHECK.due("the first", house.frameBit(1, 0), 1);
        CHECK.due("the last of the number", house.frameBit(1, 15), 1);
        int last = house.frameBit(1, bits - 1);
        CHECK.noElement("behind the last", () -> house.frameBit(1, bits));
        CHECK.noElement("ahead of the first", () -> house.frameBit(1, -1));
        CHECK.noElement("far behind", () -> house.frameBit(1, Integer.MAX_VALUE));
        CHECK.noElement("far ahead", () -> house.frameBit(1, Integer.MIN_VALUE));
        CHECK.due("turned", house.turn(1, bits - 1), 1 - last);
        CHECK.due("as it is now", house.frameBit(1, bits - 1), 1 - last);
        CHECK.due("the other frame", house.frameBit(0, bits - 9), 0);
        house.repair(1);
        CHECK.due("as it was sent", house.frameBit(1, bits - 1), last);
        CHECK.due("as many", house.frameBits(1), bits);
    }

    /** One level: lines of 4 and 5 by turns in the bands with a bit in these. */
    private static Maskingtone rows(int mask) {
        int[] left = new int[32];
        int[] right = new int[32];
        for (int i = 0; i < 32; i++) {
            int amount = i / 2 % 2 == 0 ? 5 : 4;
            left[i] = (mask >> (i % 2) & 1) * amount;
            right[i] = (mask >> (2 + i % 2) & 1) * amount;
        }
        return Build.exact(1, left, right);
    }

    private static void dueSteps(String what, Maskingtone house, int... steps) {
        int bands = steps.length / 2;
        for (int row = 0; row < steps.length; row++) {
            CHECK.due(what + ", step of " + row, house.step(0, row / bands, row % bands), steps[row]);
        }
    }

    private static void testFits() {
        Document.says(CHECK, "As long as a frame takes more");
        Maskingtone house = rows(1);
        int bits = house.code();
        CHECK.due("bits", bits, 16 + 20 + 5 + 16 * 21 + 5 + 48 + 8);
        house.setRate(bits, 0);
        CHECK.due("just as many", house.code(), bits);
        dueSteps("just as many", house, 1, 15, 15, 15);
        CHECK.due("nothing is left", house.reservoir(0), 0);
        house.setRate(bits + 1, 1);
        CHECK.due("one is left", house.code(), bits);
        CHECK.due("one is left", house.reservoir(0), 1);
        house.setRate(bits - 1, 0);
        CHECK.due("one too many", house.code() < bits, true);
        dueSteps("one too many", house, 2, 15, 15, 15);
        // 5 comes back as 6, 4 as 4
        CHECK.due("noise", house.noise(0, 0, 0), 1);
        CHECK.due("noiseAnew", house.noiseAnew(0, 0, 0), 1);
        CHECK.due("what is left has no room", house.reservoir(0), 0);
        CHECK.due("isSound", house.isSound(), true);
    }

    private static void testReservoirEmptyAtFirst() {
        Document.says(CHECK, "What a frame may take is the rate plus what is in the reservoir, which is empty at first");
        Maskingtone house = rows(1);
        house.setRate(house.code() - 1, 8000);
        house.code();
        dueSteps("the room is no reservoir", house, 2, 15, 15, 15);
        int left = house.reservoir(0);
        CHECK.due("what is left", left, 16 * 21 + 53 + 49 - 1 - house.frameBits(0));
        house.code();
        dueSteps("nor is what was left by another call", house, 2, 15, 15, 15);
        CHECK.due("the same is left", house.reservoir(0), left);
    }

    private static void testReservoirRoom() {
        Document.says(CHECK, "and has a room of 0 to 8000 bits, 2000 at first.");
        Document.says(CHECK, "What is left of it comes into the reservoir, as far as there is room.");
        Maskingtone house = new Maskingtone();
        house.setLevels(1);
        house.shape(0, 'z', 0, 2, 64);
        house.shape(0, 'z', 0, 2, 64);
        house.code();
        CHECK.due("2000 at first", house.reservoir(0), 2000);
        CHECK.due("full", house.reservoir(3), 2000);
        int[][] all = {{0, 0, 0, 0}, {1, 1, 1, 1}, {9, 9, 9, 9}, {10, 10, 10, 10}, {11, 10, 11, 11}, {19, 10, 19, 19}, {20, 10, 20, 20}, {29, 10, 20, 29}, {8000, 10, 20, 30}};
        for (int[] each : all) {
            house.setRate(LEAST_OF_ONE_LEVEL + 10, each[0]);
            house.code();
            for (int frame = 0; frame < 3; frame++) {
                CHECK.due("room " + each[0] + " behind " + frame, house.reservoir(frame), each[frame + 1]);
            }
        }
    }

    /** A silent frame and one of the band 0. */
    private static Maskingtone later() {
        int[] lines = new int[64];
        for (int i = 0; i < 16; i++) {
            lines[32 + 2 * i] = i % 2 == 0 ? 5 : 4;
        }
        return Build.exact(1, lines, EMPTY);
    }

    private static void testReservoirUsed() {
        Maskingtone house = later();
        int bits = house.code() - LEAST_OF_ONE_LEVEL;
        CHECK.due("bits of the second frame", house.frameBits(1), bits);
        // the first frame leaves what is short in the second one
        int rate = (bits + LEAST_OF_ONE_LEVEL + 1) / 2;
        house.setRate(rate, 8000);
        house.code();
        CHECK.due("left by the first", house.reservoir(0), rate - LEAST_OF_ONE_LEVEL);
        CHECK.due("the second fits", house.step(1, 0, 0), 1);
        CHECK.due("left by the second", house.reservoir(1), 2 * rate - LEAST_OF_ONE_LEVEL - bits);
        CHECK.due("nearly nothing", house.reservoir(1) <= 1, true);
        house.setRate(rate - 1, 8000);
        house.code();
        CHECK.due("the second does not fit", house.step(1, 0, 0), 2);
        house.setRate(rate, bits - rate);
        house.code();
        CHECK.due("the room is just enough", house.step(1, 0, 0), 1);
        CHECK.due("all is taken", house.reservoir(1), 0);
        house.setRate(rate, bits - rate - 1);
        house.code();
        CHECK.due("the room is too small", house.step(1, 0, 0), 2);
        int left = rate + bits - rate - 1 - house.frameBits(1);
        CHECK.due("what is left then", house.reservoir(1), Math.min(bits - rate - 1, left));
        CHECK.due("isSound", house.isSound(), true);
    }

    private static void testReservoirEmptied() {
        Document.says(CHECK, "if there is none either, the frame takes more, and the reservoir is empty then.");
        int[] lines = new int[96];
        for (int i = 0; i < 16; i++) {
            lines[32 + 2 * i + 1] = 100;
        }
        Maskingtone house = Build.exact(2, lines, EMPTY);
        house.setNoise(true);
        int silent = 16 + 6 * 5 + 5 + 64 + 8;
        house.setRate(silent + 2, 100);
        CHECK.due("code", house.code(), 3 * silent + 11);
        CHECK.due("left by silence", house.reservoir(0), 2);
        CHECK.due("noise cannot be smaller", house.frameBits(1), silent + 11);
        CHECK.due("empty", house.reservoir(1), 0);
        CHECK.due("left by silence again", house.reservoir(2), 2);
        CHECK.due("isSound", house.isSound(), true);
        house.setRate(silent + 6, 5);
        house.code();
        CHECK.due("it fits just so", house.reservoir(1), 0);
        CHECK.due("left behind it", house.reservoir(2), 5);
        house.setRate(silent - 1, 8000);
        CHECK.due("all take more", house.code(), 3 * silent + 11);
        for (int frame = 0; frame < 3; frame++) {
            CHECK.due("empty behind " + frame, house.reservoir(frame), 0);
        }
        CHECK.due("isSound", house.isSound(), true);
    }

    private static void testFirstOfSeveral() {
        Document.says(CHECK, "the band that takes the most bits by its codes in the section in which it is then, of several the first, whose step number is below 15, has one more;");
        // all pairs of bands take as many bits
        int[][] pairs = {{0b0011, 0}, {0b0101, 0}, {0b1001, 0}, {0b0110, 1}, {0b1010, 1}, {0b1100, 2}, {0b1111, 0}};
        for (int[] pair : pairs) {
            Maskingtone house = rows(pair[0]);
            house.setRate(house.code() - 1, 0);
            house.code();
            int[] want = new int[4];
            for (int row = 0; row < 4; row++) {
                want[row] = (pair[0] >> row & 1) == 0 ? 15 : row == pair[1] ? 2 : 1;
            }
            dueSteps("bands of " + Integer.toBinaryString(pair[0]), house, want);
        }
    }

    /** Lines of 4 and 5 by turns, so many of them in each band, and 1 behind them. */
    private static Maskingtone counted(int... counts) {
        int[][] lines = new int[2][32];
        for (int row = 0; row < 4; row++) {
            for (int i = 0; i < 16; i++) {
                lines[row / 2][2 * i + row % 2] = i < counts[row] ? 4 + i % 2 : 1;
            }
        }
        return Build.exact(1, lines[0], lines[1]);
    }

    private static void testMostBits() {
        for (int most = 0; most < 4; most++) {
            for (int next = 0; next < 4; next++) {
                int[] counts = {3, 3, 3, 3};
                counts[next] = 7;
                counts[most] = 8;
                int[] want = {1, 1, 1, 1};
                want[most] = 2;
                Maskingtone house = counted(counts);
                house.setRate(house.code() - 1, 0);
                house.code();
                dueSteps("most in " + most + ", next in " + next, house, want);
            }
        }
    }

    private static void testBelow15() {
        Document.says(CHECK, "whose step number is below 15");
        // 30000 by 192 is 156: two lines of 21 bits, at the greatest step; 5 and 1 take 24 bits
        int[] left = new int[32];
        int[] right = new int[32];
        left[0] = 30000;
        left[16] = 30000;
        right[0] = 5;
        right[16] = 1;
        Maskingtone house = Build.exact(4, left, right);
        int bits = house.code();
        CHECK.due("the greatest step takes most", house.step(0, 0, 0), 15);
        CHECK.due("the next one", house.step(0, 1, 0), 1);
        house.setRate(bits - 1, 0);
        house.code();
        CHECK.due("as it was", house.step(0, 0, 0), 15);
        CHECK.due("one more", house.step(0, 1, 0), 2);
        CHECK.due("not told with 0", house.noise(0, 0, 0) < 96, true);
        // one below 15 is raised once
        int[] lines = new int[32];
        lines[0] = 256;
        lines[16] = 256;
        Maskingtone one = Build.exact(4, lines, EMPTY);
        bits = one.code();
        CHECK.due("step", one.step(0, 0, 0), 14);
        one.setRate(bits - 1, 0);
        one.code();
        CHECK.due("one more", one.step(0, 0, 0), 15);
        CHECK.due("256 comes back as 192", one.noise(0, 0, 0), 64);
    }

    private static void testNoiseIsNotRaised() {
        // the band 2 of the channel 0 is noise, the band 0 of the channel 1 is not
        int[] left = Build.band(2, 2, 9);
        int[] right = new int[32];
        for (int i = 0; i < 8; i++) {
            right[4 * i] = 4 + i % 2;
        }
        Maskingtone house = Build.exact(2, left, right);
        house.setNoise(true);
        int bits = house.code();
        CHECK.due("noise", house.step(0, 0, 2), -1);
        CHECK.due("its 15 bits are counted", bits, 24 + 5 * 5 + 16 + 3 * 5 + 56 + 8 * 21);
        house.setRate(bits, 0);
        CHECK.due("just as many", house.code(), bits);
        CHECK.due("as it was", house.step(0, 1, 0), 1);
        house.setRate(bits - 1, 0);
        house.code();
        CHECK.due("one more", house.step(0, 1, 0), 2);
        CHECK.due("noise stays", house.step(0, 0, 2), -1);
        house.setRate(100, 0);
        CHECK.due("all but noise is told with 0", house.code(), 24 + 5 * 5 + 16 + 5 + 64);
        CHECK.due("noise stays", house.step(0, 0, 2), -1);
        CHECK.due("noise stays, anew", house.noiseAnew(0, 0, 2), house.noise(0, 0, 2));
        CHECK.due("the other one is 15", house.step(0, 1, 0), 15);
        CHECK.due("isSound", house.isSound(), true);
    }

    private static void testLastBandTold() {
        Document.says(CHECK, "if there is none, the last band that has lines that are not 0 is told with 0 for all;");
        // all at 15 by what is quiet; the lines of the last band come back as 0 by themselves
        int[] left = Build.band(1, 0, 800);
        Build.addBand(left, 1, 1, 700);
        int[] right = Build.band(1, 0, 600);
        Build.addBand(right, 1, 1, 90);
        Maskingtone house = Build.ofLines(1, left, right);
        house.setQuiet(0, 100);
        house.setQuiet(1, 100);
        int bits = house.code();
        dueSteps("at first", house, 15, 15, 15, 15);
        CHECK.due("noise of 600", house.noise(0, 1, 0), 24);
        CHECK.due("noise of 90", house.noise(0, 1, 1), 90);
        house.setRate(bits - 1, 0);
        int fewer = house.code();
        dueSteps("told with 0", house, 15, 15, 15, 15);
        CHECK.due("noise of 0 for 600", house.noise(0, 1, 0), 600);
        CHECK.due("noise of 0 for 600, anew", house.noiseAnew(0, 1, 0), 600);
        CHECK.due("noise of 700", house.noise(0, 0, 1), 68);
        CHECK.due("decoded", house.decoded(1, 0), 0);
        house.setRate(fewer - 1, 0);
        fewer = house.code();
        CHECK.due("noise of 0 for 700", house.noise(0, 0, 1), 700);
        CHECK.due("noise of 800", house.noise(0, 0, 0), 32);
        house.setRate(fewer - 1, 0);
        CHECK.due("none is left", house.code(), LEAST_OF_ONE_LEVEL);
        CHECK.due("noise of 0 for 800", house.noise(0, 0, 0), 800);
        CHECK.due("isSound", house.isSound(), true);
    }

    /** The very last band, and the very first one. */
    private static void testLastOfAll() {
        int[] left = Build.band(1, 0, 900);
        int[] right = Build.band(1, 1, -900);
        Maskingtone house = Build.ofLines(1, left, right);
        house.setQuiet(0, 1000);
        house.setQuiet(1, 1000);
        house.setRate(house.code() - 1, 0);
        int fewer = house.code();
        CHECK.due("the last one first", house.noise(0, 1, 1), 900);
        CHECK.due("the first one stays", house.noise(0, 0, 0), 60);
        house.setRate(fewer, 0);
        CHECK.due("it fits", house.code(), fewer);
        CHECK.due("it fits", house.noise(0, 0, 0), 60);
        house.setRate(fewer - 1, 0);
        CHECK.due("the first one at last", house.code(), LEAST_OF_ONE_LEVEL);
        CHECK.due("the first one at last", house.noise(0, 0, 0), 900);
        CHECK.due("decoded", house.decoded(0, 0), 0);
    }

    private static void testNoneLeft() {
        Maskingtone house = Build.exact(1, new int[32], EMPTY);
        house.setRate(LEAST_OF_ONE_LEVEL, 0);
        CHECK.due("just as many", house.code(), LEAST_OF_ONE_LEVEL);
        house.setRate(LEAST_OF_ONE_LEVEL - 1, 8000);
        CHECK.due("it takes more", house.code(), LEAST_OF_ONE_LEVEL);
        CHECK.due("the reservoir is empty", house.reservoir(0), 0);
        CHECK.due("isSound", house.isSound(), true);
        dueSteps("silence", house, 15, 15, 15, 15);
        // the longest codes of all
        for (int book = 0; book < 3; book++) {
            for (int symbol = 0; symbol < 8; symbol++) {
                house.setLength(book, symbol, 8);
            }
        }
        CHECK.due("eight bits for each", house.code(), 16 + 20 + 5 + 64 * 8 + 8);
        CHECK.due("sectionBits", house.sectionBits(0), 5 + 64 * 8);
    }

    /** A band that would take fewer bits by another book is as dear as it is by that of its section. */
    private static void testBitsInItsSection() {
        // 25 + 4 * 3 + 4 + 10 bits by the book 0, more by the others
        int[] left = Build.evenLines(7, 1, 1, 1, 1, -2);
        // 6 * 7 + 3 + 9 bits by the book 0, 6 * 5 + 2 + 18 by the book 2, for which a section of its own is too dear
        int[] right = Build.evenLines(3, 3, 3, 3, 3, 3, 1);
        Maskingtone house = Build.exact(1, left, right);
        CHECK.due("code", house.code(), LEAST_OF_ONE_LEVEL - 32 + 51 + 54);
        for (int row = 0; row < 4; row++) {
            CHECK.due("by the book 0", house.bookOf(0, row / 2, row % 2), 0);
        }
        house.setRate(house.frameBits(0) - 1, 0);
        house.code();
        dueSteps("54 is more than 51", house, 1, 15, 2, 15);
    }

    private interface Doing {
        void on(Maskingtone house);
    }

    private static final Doing[] TAKING = {
        house -> house.shape(1, 'z', 0, 2, 1), house -> house.add(0, 64, 0), house -> house.setSample(0, 3, house.sample(0, 3)),
        house -> house.clear(), house -> house.setLevels(3), house -> house.setQuiet(4, 2), house -> house.setLength(2, 7, 5),
        house -> house.setRate(4000, 2000), house -> house.setNoise(false), house -> house.limit(32767)};

    private static final Doing[] LEAVING = {
        house -> house.keep(0, 64), house -> house.dropEdits(), house -> house.lose(1), house -> house.turn(0, 0), house -> house.repair(0),
        house -> house.arrive(1, 9), house -> house.isSound(), house -> house.allBits(), house -> house.preroll(1), house -> house.code(),
        house -> house.decoded(0, 0), house -> house.loudness(0), house -> house.played(0, 0), house -> house.lineAnew(0, 0)};

    private static Maskingtone coded() {
        Maskingtone house = new Maskingtone();
        house.shape(0, 'n', 100, 3, 64);
        house.code();
        house.arrive(0, 0);
        house.arrive(1, 12);
        return house;
    }

    private static void testTakesAway() {
        Document.says(CHECK, "Each call that is done and puts in, adds, sets, takes away or limits samples, or sets levels, what is quiet, lengths of codes, the rate and the room, or whether noise may be told, takes away what was coded, and what has arrived, even if all is as before.");
        for (int i = 0; i < TAKING.length; i++) {
            String what = "call " + i;
            Maskingtone house = coded();
            CHECK.due(what + ", leastDelay", house.leastDelay(), 2);
            TAKING[i].on(house);
            CHECK.due(what + ", frames", house.frames(), 0);
            CHECK.noElement(what + ", decoded", () -> house.decoded(0, 0));
            CHECK.noElement(what + ", decoded of no channel", () -> house.decoded(2, -1));
            CHECK.noElement(what + ", error", () -> house.error(0));
            CHECK.noElement(what + ", leastDelay", () -> house.leastDelay());
            CHECK.noPlace(what + ", frameBits", () -> house.frameBits(0));
            CHECK.noPlace(what + ", lose", () -> house.lose(0));
            CHECK.noPlace(what + ", arrive", () -> house.arrive(0, 0));
            CHECK.throwing(what + ", meanNoise", ArithmeticException.class, () -> house.meanNoise());
            CHECK.due(what + ", played", house.played(0, 0), -1);
            CHECK.due(what + ", isSound", house.isSound(), true);
            if (house.blocks() == 0) {
                house.shape(0, 'n', 100, 3, 64);
            }
            house.code();
            CHECK.noElement(what + ", leastDelay when coded", () -> house.leastDelay());
            CHECK.due(what + ", played when coded", house.played(0, 0), -2);
            CHECK.due(what + ", how many have arrived", house.arrive(1, 0), 1);
        }
    }

    private static void testTakesNothingAway() {
        for (int i = 0; i < LEAVING.length; i++) {
            Maskingtone house = coded();
            LEAVING[i].on(house);
            CHECK.due("call " + i + ", frames", house.frames(), 2);
            CHECK.due("call " + i + ", leastDelay", house.leastDelay() <= 2, true);
        }
        Maskingtone house = coded();
        CHECK.noPlace("setSample", () -> house.setSample(0, 64, 0));
        CHECK.noArgument("setLevels", () -> house.setLevels(5));
        CHECK.noArgument("setQuiet", () -> house.setQuiet(5, 0));
        CHECK.noOperation("setLength", () -> house.setLength(1, 0, 2));
        CHECK.noArgument("setRate", () -> house.setRate(99, 0));
        CHECK.noArgument("limit", () -> house.limit(0));
        CHECK.noArgument("add", () -> house.add(0, 65, 0));
        CHECK.noArgument("shape", () -> house.shape(0, 'q', 1, 2, 0));
        CHECK.due("frames", house.frames(), 2);
        CHECK.due("leastDelay", house.leastDelay(), 2);
    }

    private static void testNoFrames() {
        Document.says(CHECK, "Returns how many frames were coded.");
        Maskingtone house = new Maskingtone();
        house.shape(0, 'q', 9, 4, 64);
        CHECK.due("frames", house.frames(), 0);
        CHECK.noPlace("frameBits", () -> house.frameBits(0));
        CHECK.noPlace("frameBit", () -> house.frameBit(0, 0));
        CHECK.noPlace("sections", () -> house.sections(0));
        CHECK.noPlace("sectionBits", () -> house.sectionBits(0));
        CHECK.noPlace("sectionBitsAnew", () -> house.sectionBitsAnew(0));
        CHECK.noPlace("reservoir", () -> house.reservoir(0));
        CHECK.noPlace("step", () -> house.step(0, 0, 0));
        CHECK.noPlace("noise", () -> house.noise(0, 0, 0));
        CHECK.noPlace("noiseAnew", () -> house.noiseAnew(0, 0, 0));
        CHECK.noPlace("bookOf", () -> house.bookOf(0, 0, 0));
    }

    private static void testPlaces() {
        Maskingtone house = coded();
        for (int frame : new int[] {-1, 2, 7, 8, Integer.MIN_VALUE, Integer.MAX_VALUE}) {
            String what = " of the frame " + frame;
            CHECK.noPlace("frameBits" + what, () -> house.frameBits(frame));
            CHECK.noPlace("frameBit" + what, () -> house.frameBit(frame, 0));
            CHECK.noPlace("no bit" + what, () -> house.frameBit(frame, -1));
            CHECK.noPlace("sections" + what, () -> house.sections(frame));
            CHECK.noPlace("sectionBits" + what, () -> house.sectionBits(frame));
            CHECK.noPlace("sectionBitsAnew" + what, () -> house.sectionBitsAnew(frame));
            CHECK.noPlace("reservoir" + what, () -> house.reservoir(frame));
            CHECK.noPlace("step" + what, () -> house.step(frame, 0, 0));
            CHECK.noPlace("noise" + what, () -> house.noise(frame, 0, 0));
            CHECK.noPlace("noiseAnew" + what, () -> house.noiseAnew(frame, 0, 0));
            CHECK.noPlace("bookOf" + what, () -> house.bookOf(frame, 0, 0));
        }
        for (int channel : new int[] {-1, 2, Integer.MIN_VALUE, Integer.MAX_VALUE}) {
            String what = " of the channel " + channel;
            CHECK.noPlace("step" + what, () -> house.step(0, channel, 0));
            CHECK.noPlace("noise" + what, () -> house.noise(0, channel, 0));
            CHECK.noPlace("noiseAnew" + what, () -> house.noiseAnew(0, channel, 0));
            CHECK.noPlace("bookOf" + what, () -> house.bookOf(0, channel, 0));
        }
        CHECK.due("the last frame", house.frameBits(1) > 0, true);
        CHECK.due("the last frame", house.sectionBits(1), house.frameBits(1) - 24 - 40);
    }
}
