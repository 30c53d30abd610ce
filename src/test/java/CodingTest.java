/** Promises 26 to 39: setRate, setNoise, code, what frames are, their steps, noise, sections and the reservoir. */
public final class CodingTest {
    private static final Check CHECK = new Check();

    public static void main(String[] args) {
        testSettings();
        testSilence();
        testSilenceOfTenBands();
        testOneLine();
        testSteps();
        testNoiseTold();
        testNoiseKept();
        testTwiceTheStrength();
        testLoudStrength();
        testRate();
        testRateTooLow();
        testReservoir();
        testPartings();
        testTakenAway();
        testWrong();
        CHECK.end();
    }

    private static void testSettings() {
        Maskingtone house = new Maskingtone();
        CHECK.due("setRate", house.setRate(100, 8000), 4000);
        CHECK.due("setRate", house.setRate(4000, 0), 100);
        CHECK.noArgument("rate 99", () -> house.setRate(99, 0));
        CHECK.noArgument("rate 4001", () -> house.setRate(4001, 0));
        CHECK.noArgument("room -1", () -> house.setRate(100, -1));
        CHECK.noArgument("room 8001", () -> house.setRate(100, 8001));
        CHECK.due("setRate", house.setRate(100, 1), 4000);
        CHECK.due("setNoise", house.setNoise(true), false);
        CHECK.due("setNoise", house.setNoise(true), true);
        CHECK.due("setNoise", house.setNoise(false), true);
        CHECK.due("setNoise", house.setNoise(false), false);
        CHECK.noElement("code of nothing", () -> house.code());
    }

    private static void testSilence() {
        Maskingtone house = new Maskingtone();
        house.shape(0, 'z', 0, 2, 33);
        CHECK.due("code", house.code(), 2 * 133);
        CHECK.due("frames", house.frames(), 2);
        CHECK.due("frameBits", house.frameBits(1), 133);
        String due = "10100111" + "00000001" + "01111".repeat(8) + "00" + "111" + "0".repeat(64);
        CHECK.due("bits", Told.bits(house, 1), due + Told.check(due));
        for (int band = 0; band < 4; band++) {
            CHECK.due("step", house.step(0, 1, band), 15);
            CHECK.due("noise", house.noise(0, 1, band), 0);
            CHECK.due("noiseAnew", house.noiseAnew(0, 1, band), 0);
            CHECK.due("bookOf", house.bookOf(1, 0, band), 0);
        }
        CHECK.due("sections", house.sections(0), 1);
        CHECK.due("sectionBits", house.sectionBits(0), 69);
        CHECK.due("sectionBitsAnew", house.sectionBitsAnew(0), 69);
        CHECK.due("reservoir", house.reservoir(0), 2000);
    }

    /** Ten bands need two sections; the first one is as long as it can be. */
    private static void testSilenceOfTenBands() {
        Maskingtone house = new Maskingtone();
        house.shape(0, 'z', 0, 2, 32);
        house.setLevels(4);
        CHECK.due("code", house.code(), 16 + 50 + 74 + 8);
        CHECK.due("sections", house.sections(0), 2);
        String due = "10100111" + "00000000" + "01111".repeat(10) + "00" + "111" + "0".repeat(32 + 8) + "00" + "001" + "0".repeat(24);
        CHECK.due("bits", Told.bits(house, 0), due + Told.check(due));
        house.setLevels(1);
        CHECK.due("code of four bands", house.code(), 16 + 20 + 69 + 8);
        // with the same lengths in each book, the lowest one
        for (int i = 0; i < 8; i++) {
            house.setLength(2, i, 3);
        }
        for (int i = 1; i < 8; i++) {
            house.setLength(0, i, 8);
        }
        house.setLength(0, 0, 3);
        house.code();
        CHECK.due("bookOf", house.bookOf(0, 1, 1), 0);
        CHECK.due("sectionBits", house.sectionBits(0), 5 + 64 * 3);
        house.setLength(0, 0, 4);
        house.code();
        CHECK.due("bookOf", house.bookOf(0, 1, 1), 1);
    }

    /** A constant of 640 is one line of 640 in each 16 at four levels, 40 in a band of 16 at one. */
    private static void testOneLine() {
        Maskingtone house = new Maskingtone();
        house.shape(1, 'q', 300, 64, 32);
        house.setLevels(4);
        house.code();
        // the mask is 37, the steps 128 * 3 / 2 and 128 leave 300 - 384 and 300 - 256, then 96 * 3 = 288
        CHECK.due("step", house.step(0, 1, 0), 13);
        CHECK.due("noise", house.noise(0, 1, 0), 12);
        CHECK.due("noiseAnew", house.noiseAnew(0, 1, 0), 12);
        CHECK.due("step of silence", house.step(0, 1, 1), 15);
        CHECK.due("decoded", house.decoded(1, 9), 288);
        CHECK.due("decoded", house.decoded(0, 9), 0);
        CHECK.due("error", house.error(1), 32L * 12);
        String bits = Told.bits(house, 0);
        String head = "10100111" + "00000000" + "01111".repeat(5) + "01101" + "01111".repeat(4);
        CHECK.due("head", bits.substring(0, 66), head);
        // two lines of 3, of the number 6, each 7 or 3 or 5 bits by the books 0, 1, 2
        CHECK.due("sectionBits", house.sectionBitsAnew(0), house.sectionBits(0));
        house.setSample(1, 31, -300);
        house.code();
        CHECK.due("noise is rounded up", house.noise(0, 1, 4), house.noiseAnew(0, 1, 4));
    }

    private static void testSteps() {
        int[] sizes = {1, 1, 2, 3, 4, 6, 8, 12, 16, 24, 32, 48, 64, 96, 128, 192};
        for (int quiet = 0; quiet <= 100; quiet++) {
            Maskingtone house = new Maskingtone();
            house.shape(0, 'q', 97, 64, 32);
            house.setLevels(4);
            house.setQuiet(0, quiet);
            house.setQuiet(1, 0);
            house.code();
            int mask = Math.max(quiet, 97 / 8);
            int greatest = 0;
            for (int step = 0; step < 16; step++) {
                int back = (97 + sizes[step] / 2) / sizes[step] * sizes[step];
                greatest = Math.abs(97 - back) <= mask ? step : greatest;
            }
            int back = (97 + sizes[greatest] / 2) / sizes[greatest] * sizes[greatest];
            CHECK.due("step with quiet " + quiet, house.step(0, 0, 0), greatest);
            CHECK.due("noise with quiet " + quiet, house.noise(0, 0, 0), Math.abs(97 - back));
            CHECK.due("decoded with quiet " + quiet, house.decoded(0, 31), back);
        }
        Maskingtone low = new Maskingtone();
        low.shape(0, 'q', 97, 64, 32);
        low.shape(1, 'z', 0, 2, 32);
        low.add(1, 0, -100);
        low.setLevels(4);
        low.code();
        CHECK.due("below 0", low.decoded(1, 31), -low.decoded(0, 31));
        CHECK.due("rounded by amount", low.noise(0, 1, 0), low.noise(0, 0, 0));
    }

    private static Maskingtone alternating(int amplitude) {
        Maskingtone house = new Maskingtone();
        house.shape(0, 'q', amplitude, 2, 32);
        house.setLevels(2);
        house.setNoise(true);
        return house;
    }

    private static void testNoiseTold() {
        Maskingtone house = alternating(50);
        CHECK.due("strength", house.strength(0, 0, 2), 100);
        house.code();
        CHECK.due("step of noise", house.step(0, 0, 2), -1);
        CHECK.due("step of others", house.step(0, 0, 1) >= 0 && house.step(0, 1, 2) == 15, true);
        String bits = Told.bits(house, 0);
        CHECK.due("told by its strength", bits.substring(26, 42), "1" + "000000001100100");
        // the lines of noise are made anew
        long state = 1;
        long sum = 0;
        for (int i = 0; i < 16; i++) {
            state = (state * 1103515245L + 12345L) % (1L << 31);
            sum += Math.abs(house.line(0, 2 * i + 1) - ((state >> 8) % 201 - 100));
        }
        CHECK.due("noise of noise", house.noise(0, 0, 2), (int) ((sum + 15) / 16));
        CHECK.due("noiseAnew of noise", house.noiseAnew(0, 0, 2), (int) ((sum + 15) / 16));
        CHECK.due("isSound", house.isSound(), true);
        house.setNoise(false);
        house.code();
        CHECK.due("step without noise", house.step(0, 0, 2) >= 0, true);
    }

    private static void testNoiseKept() {
        Maskingtone low = new Maskingtone();
        low.shape(0, 'q', 50, 2, 32);
        low.setLevels(1);
        low.setNoise(true);
        low.code();
        CHECK.due("not the band 1", low.step(0, 0, 1) >= 0, true);
        Maskingtone silent = alternating(0);
        silent.code();
        CHECK.due("not a strength of 0", silent.step(0, 0, 2), 15);
        // one line in a band of 16 is far above twice the strength
        Maskingtone peak = new Maskingtone();
        peak.shape(0, 'z', 0, 2, 32);
        peak.setSample(0, 9, 1000);
        peak.setNoise(true);
        peak.code();
        CHECK.due("not a peak", peak.step(0, 0, 3) >= 0, true);
        // 125 at 10 and -125 at 6, a strength of 31
        CHECK.due("not two peaks in 8 lines", peak.step(0, 0, 2) >= 0, true);
        peak.shape(1, 'z', 0, 2, 32);
        peak.setSample(1, 9, 1000);
        peak.setSample(0, 9, 0);
        peak.code();
        CHECK.due("not a peak of the channel 1", peak.step(0, 1, 3) >= 0, true);
    }

    private static void testTwiceTheStrength() {
        Maskingtone house = alternating(5);
        // at the end of the channel, a line moves by as much as its sample
        house.setSample(0, 31, -15);
        CHECK.due("greatest", house.line(0, 31), -20);
        CHECK.due("strength", house.strength(0, 0, 2), 10);
        house.code();
        CHECK.due("just twice", house.step(0, 0, 2), -1);
        house.setSample(0, 31, -16);
        CHECK.due("greatest", house.line(0, 31), -21);
        house.code();
        CHECK.due("more than twice", house.step(0, 0, 2) >= 0, true);
    }

    /** The strength is told in 15 bits, whatever it is. */
    private static void testLoudStrength() {
        Maskingtone house = alternating(0);
        for (int i = 0; i < 32; i++) {
            house.setSample(0, i, i % 2 == 0 ? -32768 : 32767);
        }
        CHECK.due("strength", house.strength(0, 0, 2), 65535);
        house.code();
        CHECK.due("step of noise", house.step(0, 0, 2), -1);
        CHECK.due("told strength", Told.bits(house, 0).substring(26, 42), "1".repeat(16));
        CHECK.due("noiseAnew", house.noiseAnew(0, 0, 2), house.noise(0, 0, 2));
        CHECK.due("isSound", house.isSound(), true);
    }

    private static Maskingtone loud() {
        Maskingtone house = new Maskingtone();
        for (int i = 0; i < 3; i++) {
            house.shape(0, 'n', 300, 9, 64);
            house.shape(1, 'n', 40, 7, 64);
        }
        return house;
    }

    private static void testRate() {
        Maskingtone house = loud();
        int freely = house.code();
        int[] steps = new int[8];
        for (int row = 0; row < 8; row++) {
            steps[row] = house.step(0, row / 4, row % 4);
        }
        house.setRate(400, 0);
        int sum = house.code();
        CHECK.due("fewer bits", sum < freely && sum <= 6 * 400, true);
        boolean isGreater = false;
        for (int row = 0; row < 8; row++) {
            int step = house.step(0, row / 4, row % 4);
            CHECK.due("steps rise", step >= steps[row], true);
            isGreater |= step > steps[row];
        }
        CHECK.due("a step rises", isGreater, true);
        CHECK.due("the first one fits", house.frameBits(0) <= 400, true);
        CHECK.due("noise is that of the steps then", house.noise(0, 0, 3), house.noiseAnew(0, 0, 3));
        CHECK.due("isSound", house.isSound(), true);
        CHECK.due("no room", house.reservoir(0), 0);
    }

    private static void testRateTooLow() {
        Maskingtone house = new Maskingtone();
        house.shape(0, 'z', 0, 2, 32);
        house.setRate(133, 100);
        CHECK.due("it fits just so", house.code(), 133);
        CHECK.due("nothing is left", house.reservoir(0), 0);
        house.setRate(134, 100);
        house.code();
        CHECK.due("one is left", house.reservoir(0), 1);
        house.setRate(132, 100);
        CHECK.due("it cannot be smaller", house.code(), 133);
        CHECK.due("the reservoir is empty", house.reservoir(0), 0);
        CHECK.due("isSound", house.isSound(), true);
        Maskingtone loud = loud();
        loud.setRate(100, 8000);
        CHECK.due("all are told with 0", loud.code(), 6 * 133);
        CHECK.due("steps", loud.step(2, 0, 0), 15);
        CHECK.due("noise is the mean of lines", loud.noise(2, 0, 0) >= loud.strength(0, 2, 0), true);
        CHECK.due("noiseAnew", loud.noiseAnew(2, 0, 0), loud.noise(2, 0, 0));
        CHECK.due("isSound", loud.isSound(), true);
        // the last band with lines is told with 0 first
        Maskingtone two = new Maskingtone();
        two.shape(0, 'q', 16000, 64, 32);
        two.shape(1, 'q', 16000, 64, 32);
        two.setLevels(4);
        two.setRate(160 + 148, 0);
        two.code();
        int full = two.frameBits(0);
        two.setRate(full - 1, 0);
        two.code();
        CHECK.due("the band 0 of the channel 1 is 0", two.noise(0, 1, 0), 16000);
        CHECK.due("that of the channel 0 is not", two.noise(0, 0, 0) < 200, true);
        CHECK.due("decoded", two.decoded(1, 5), 0);
    }

    private static void testReservoir() {
        Maskingtone house = new Maskingtone();
        for (int i = 0; i < 4; i++) {
            house.shape(0, 'z', 0, 2, 64);
        }
        house.setRate(200, 150);
        house.code();
        for (int i = 0; i < 8; i++) {
            CHECK.due("reservoir " + i, house.reservoir(i), Math.min(150, 67 * (i + 1)));
        }
        Maskingtone late = new Maskingtone();
        late.shape(0, 'z', 0, 2, 64);
        late.shape(0, 'z', 0, 2, 32);
        late.shape(0, 'n', 16000, 5, 32);
        late.setRate(250, 1000);
        late.code();
        CHECK.due("what was saved", late.reservoir(1), 2 * 117);
        CHECK.due("is used by the loud one", late.frameBits(3) > 250 && late.frameBits(3) <= 250 + late.reservoir(2), true);
        CHECK.due("what is left", late.reservoir(3), 250 + late.reservoir(2) - late.frameBits(3));
        late.code();
        CHECK.due("each call begins with an empty one", late.reservoir(0), 117);
    }

    /** The least bits and the books follow from the codes in the frame. */
    private static void testPartings() {
        for (int seed = 2; seed < 30; seed++) {
            int own = seed;
            Maskingtone house = partedHouse(seed);
            int total = house.code();
            int rows = 2 * (2 + seed % 4);
            CHECK.due("sectionBitsAnew", house.sectionBitsAnew(0), house.sectionBits(0));
            CHECK.due("code", total, 24 + 5 * rows + house.sectionBits(0));
            String bits = Told.bits(() -> coded(partedHouse(own)), 0);
            CHECK.due("check", bits.substring(total - 8), Told.check(bits.substring(0, total - 8)));
            int section = Integer.parseInt(bits.substring(16 + 5 * rows, 18 + 5 * rows), 2);
            CHECK.due("first book", section, house.bookOf(0, 0, 0));
            int changes = 1;
            for (int row = 1; row < rows; row++) {
                int bands = rows / 2;
                changes += house.bookOf(0, row / bands, row % bands) != house.bookOf(0, (row - 1) / bands, (row - 1) % bands) ? 1 : 0;
            }
            CHECK.due("sections", house.sections(0) >= changes, true);
        }
    }

    private static Maskingtone partedHouse(int seed) {
        Maskingtone house = new Maskingtone();
        house.shape(0, 'n', seed * 500, seed, 32);
        house.shape(1, 'i', seed * 30, seed, 32);
        house.setLevels(1 + seed % 4);
        return house;
    }

    private static Maskingtone coded(Maskingtone house) {
        house.code();
        return house;
    }

    private static void testTakenAway() {
        Maskingtone house = loud();
        Runnable[] calls = {() -> house.shape(0, 'z', 0, 2, 1), () -> house.add(0, 0, 0), () -> house.setSample(0, 0, house.sample(0, 0)),
            () -> house.setLevels(3), () -> house.setQuiet(0, 2), () -> house.setLength(0, 0, 1), () -> house.setRate(4000, 2000),
            () -> house.setNoise(false), () -> house.limit(32767)};
        for (int i = 0; i < calls.length; i++) {
            house.code();
            CHECK.due("frames", house.frames() >= 6, true);
            house.arrive(1, 5);
            calls[i].run();
            CHECK.due("frames after call " + i, house.frames(), 0);
            CHECK.noElement("leastDelay after call " + i, () -> house.leastDelay());
            house.code();
            CHECK.noElement("leastDelay after call " + i + " and code", () -> house.leastDelay());
        }
        house.code();
        house.arrive(1, 5);
        CHECK.noArgument("setQuiet", () -> house.setQuiet(0, 1001));
        CHECK.noOperation("setLength", () -> house.setLength(1, 0, 1));
        CHECK.noArgument("shape", () -> house.shape(0, 'z', 0, 1, 1));
        house.keep(0, 9);
        house.dropEdits();
        CHECK.due("frames are kept by others", house.frames(), 7);
        CHECK.due("what arrived, too", house.leastDelay(), 0);
        house.lose(0);
        house.code();
        CHECK.noElement("all are there and whole", () -> house.fault(0, 0));
        CHECK.due("what arrived stays with code", house.leastDelay(), 0);
        house.clear();
        CHECK.due("frames after clear", house.frames(), 0);
        CHECK.noElement("leastDelay after clear", () -> house.leastDelay());
    }

    private static void testWrong() {
        Maskingtone house = loud();
        CHECK.noPlace("frameBits of none", () -> house.frameBits(0));
        house.code();
        for (int frame : new int[] {-1, 6, 256}) {
            CHECK.noPlace("frameBits", () -> house.frameBits(frame));
            CHECK.noPlace("frameBit", () -> house.frameBit(frame, -1));
            CHECK.noPlace("step", () -> house.step(frame, 0, 9));
            CHECK.noPlace("noise", () -> house.noise(frame, 0, 9));
            CHECK.noPlace("noiseAnew", () -> house.noiseAnew(frame, 0, 9));
            CHECK.noPlace("bookOf", () -> house.bookOf(frame, 0, 9));
            CHECK.noPlace("sections", () -> house.sections(frame));
            CHECK.noPlace("sectionBits", () -> house.sectionBits(frame));
            CHECK.noPlace("sectionBitsAnew", () -> house.sectionBitsAnew(frame));
            CHECK.noPlace("reservoir", () -> house.reservoir(frame));
        }
        for (int channel : new int[] {-1, 2}) {
            CHECK.noPlace("step", () -> house.step(0, channel, 9));
            CHECK.noPlace("noise", () -> house.noise(0, channel, 9));
            CHECK.noPlace("noiseAnew", () -> house.noiseAnew(0, channel, 9));
            CHECK.noPlace("bookOf", () -> house.bookOf(0, channel, 9));
        }
        house.lose(0);
        for (int band : new int[] {-1, 4}) {
            CHECK.noArgument("step", () -> house.step(0, 0, band));
            CHECK.noArgument("noise", () -> house.noise(0, 0, band));
            CHECK.noArgument("noiseAnew", () -> house.noiseAnew(0, 0, band));
            CHECK.noArgument("bookOf", () -> house.bookOf(0, 0, band));
        }
        CHECK.noOperation("noiseAnew of a lost one", () -> house.noiseAnew(0, 0, 0));
        CHECK.noElement("frameBit -1", () -> house.frameBit(1, -1));
        CHECK.noElement("frameBit behind", () -> house.frameBit(1, house.frameBits(1)));
        CHECK.due("the last bit", house.frameBit(1, house.frameBits(1) - 1) <= 1, true);
    }
}
