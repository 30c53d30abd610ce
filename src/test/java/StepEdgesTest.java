/** The edges in the paragraph "Steps", and those of noise that is told, with the promises 27 and 32 to 34. */
public final class StepEdgesTest {
    private static final Check CHECK = new Check();
    private static final int[] EMPTY = {};
    private static final int[] SIZES = {1, 1, 2, 3, 4, 6, 8, 12, 16, 24, 32, 48, 64, 96, 128, 192};

    public static void main(String[] args) {
        testRoundedAmounts();
        testEachStep();
        testGreatestOfAll();
        testNoiseRoundedUp();
        testNoiseAtMostMask();
        testNoiseAtFirstNot();
        testBandFromTwo();
        testTwiceTheStrength();
        testStrengthOfNothing();
        testStrengthCut();
        testNoiseMadeAnew();
        testBandsAndChannels();
        testNoiseAnewOfWholeFrames();
        CHECK.end();
    }

    private static int back(int line, int step) {
        int size = SIZES[step];
        int amount = (Math.abs(line) + size / 2) / size * size;
        return line < 0 ? -amount : amount;
    }

    /** Of four levels: the two lines of the band 0 alone. */
    private static Maskingtone two(int first, int second, int quiet) {
        int[] lines = new int[32];
        lines[0] = first;
        lines[16] = second;
        Maskingtone house = Build.ofLines(4, lines, EMPTY);
        house.setQuiet(0, quiet);
        house.code();
        return house;
    }

    private static void testRoundedAmounts() {
        Document.says(CHECK, "A line becomes its amount plus half of the step, cut, divided by the step, cut, with its sign, and comes back as this times the step.");
        // the step of 192: 95 and half of it is 191, 96 and half of it is 192
        int[][] pairs = {{95, 0}, {96, 192}, {-95, 0}, {-96, -192}, {287, 192}, {288, 384}, {-287, -192}, {-288, -384}, {0, 0}};
        for (int[] pair : pairs) {
            Maskingtone house = two(pair[0], pair[0], 1000);
            CHECK.due("step of " + pair[0], house.step(0, 0, 0), 15);
            CHECK.due("noise of " + pair[0], house.noise(0, 0, 0), Math.abs(pair[0] - pair[1]));
            CHECK.due("what comes back of " + pair[0], house.decoded(0, 0), pair[1]);
            CHECK.due("what comes back between", house.decoded(0, 9), pair[1]);
        }
    }

    private static void testEachStep() {
        Document.says(CHECK, "A step number is 0 to 15, and the step 1 shifted left by half of it, cut, times 3 divided by 2, cut, if it is odd, so 1, 1, 2, 3, 4, 6, 8, 12, and so on.");
        Document.says(CHECK, "The step number of a band is the greatest one of all whose noise is at most its mask.");
        boolean[] isMet = new boolean[16];
        for (int first = 0; first <= 200; first += first < 12 ? 1 : 7) {
            for (int second : new int[] {first, -first, first / 2, 1 - first, 192 - first}) {
                for (int quiet : new int[] {0, 1, 2, 3, 5, 9, 17, 30, 60, 95, 96}) {
                    int mask = Math.max(quiet, (Math.abs(first) + Math.abs(second)) / 2 / 8);
                    int greatest = 0;
                    int noise = 0;
                    for (int step = 0; step < 16; step++) {
                        int sum = Math.abs(first - back(first, step)) + Math.abs(second - back(second, step));
                        if ((sum + 1) / 2 <= mask) {
                            greatest = step;
                            noise = (sum + 1) / 2;
                        }
                    }
                    String what = " of " + first + " and " + second + ", quiet " + quiet;
                    Maskingtone house = two(first, second, quiet);
                    CHECK.due("step" + what, house.step(0, 0, 0), greatest);
                    CHECK.due("noise" + what, house.noise(0, 0, 0), noise);
                    CHECK.due("noiseAnew" + what, house.noiseAnew(0, 0, 0), noise);
                    CHECK.due("decoded" + what, house.decoded(0, 0), back(first, greatest));
                    isMet[greatest] = true;
                }
            }
        }
        // the steps 0 and 1 are the same, so that 0 is never the greatest
        for (int step = 0; step < 16; step++) {
            CHECK.due("the step number " + step + " was met", isMet[step], step > 0);
        }
    }

    private static void testGreatestOfAll() {
        // 192 comes back as 256 by the step number 14, as it is by 15
        Maskingtone house = two(192, 192, 0);
        CHECK.due("step", house.step(0, 0, 0), 15);
        CHECK.due("noise", house.noise(0, 0, 0), 0);
        // 5 is 6 by 4 numbers, 4 by another one
        Maskingtone five = two(5, 5, 0);
        CHECK.due("none but 1", five.step(0, 0, 0), 1);
        Maskingtone one = two(5, 5, 1);
        CHECK.due("by 6", one.step(0, 0, 0), 5);
        CHECK.due("silence", two(0, 0, 0).step(0, 0, 0), 15);
    }

    private static int[] oddLines(int count, int amount) {
        int[] lines = new int[32];
        for (int i = 0; i < count; i++) {
            lines[2 * i + 1] = amount;
        }
        return lines;
    }

    private static void testNoiseRoundedUp() {
        Document.says(CHECK, "The noise of a band is the sum of the amounts by which its lines come back otherwise, those of noise and of 0 for all, too, divided by their number, rounded up.");
        int[][] sums = {{1, 1, 1}, {15, 1, 1}, {16, 1, 1}, {8, 2, 1}, {16, 2, 2}, {11, 3, 3}, {16, 3, 3}, {16, -3, 3}};
        for (int[] each : sums) {
            Maskingtone house = Build.ofLines(1, oddLines(each[0], each[1]), EMPTY);
            house.setQuiet(1, each[2]);
            house.code();
            String what = each[0] + " lines of " + each[1];
            CHECK.due(what + ", step", house.step(0, 0, 1), 15);
            CHECK.due(what + ", noise", house.noise(0, 0, 1), each[2]);
            CHECK.due(what + ", noise anew", house.noiseAnew(0, 0, 1), each[2]);
            house.setQuiet(1, each[2] - 1);
            house.code();
            CHECK.due(what + ", less quiet", house.step(0, 0, 1) < 15, true);
            CHECK.due(what + ", noise then", house.noise(0, 0, 1) <= each[2] - 1, true);
        }
    }

    private static void testNoiseAtMostMask() {
        // the mask is the strength of the frame ahead divided by 32, and by the step numbers 12 to 15, 31 comes back as 0
        int[] lines = new int[64];
        lines[0] = 992;
        lines[16] = 992;
        lines[32] = 31;
        lines[48] = 31;
        Maskingtone house = Build.exact(4, lines, EMPTY);
        house.code();
        CHECK.due("mask", house.mask(0, 1, 0), 31);
        CHECK.due("as much as the mask", house.step(1, 0, 0), 15);
        CHECK.due("as much as the mask", house.noise(1, 0, 0), 31);
        lines[0] = 991;
        lines[16] = 990;
        Maskingtone less = Build.exact(4, lines, EMPTY);
        less.code();
        CHECK.due("mask", less.mask(0, 1, 0), 30);
        CHECK.due("more than the mask", less.step(1, 0, 0), 11);
        CHECK.due("more than the mask", less.noise(1, 0, 0), 48 - 31);
    }

    private static void testNoiseAtFirstNot() {
        Document.says(CHECK, "Tells whether noise may be told; at first it may not.");
        Maskingtone house = Build.ofLines(2, Build.band(2, 2, 100), EMPTY);
        house.code();
        CHECK.due("not at first", house.step(0, 0, 2) > 0, true);
        CHECK.due("whether it might", house.setNoise(true), false);
        house.code();
        CHECK.due("now it may", house.step(0, 0, 2), -1);
        CHECK.due("whether it might", house.setNoise(true), true);
        CHECK.due("whether it might", house.setNoise(false), true);
        house.code();
        CHECK.due("no more", house.step(0, 0, 2) > 0, true);
        CHECK.due("whether it might", house.setNoise(false), false);
    }

    private static Maskingtone noisy(int levels, int[] left, int[] right) {
        Maskingtone house = Build.ofLines(levels, left, right);
        house.setNoise(true);
        house.code();
        return house;
    }

    private static void testBandFromTwo() {
        Document.says(CHECK, "If noise may be told, a band from 2 on");
        for (int levels = 1; levels <= 4; levels++) {
            for (int band = 0; band <= levels; band++) {
                int[] lines = Build.band(levels, band, 100);
                Maskingtone left = noisy(levels, lines, EMPTY);
                CHECK.due("band " + band + " of " + levels, left.step(0, 0, band) == -1, band >= 2);
                CHECK.due("the other channel", left.step(0, 1, band), 15);
                Maskingtone right = noisy(levels, EMPTY, lines);
                CHECK.due("band " + band + " of " + levels, right.step(0, 1, band) == -1, band >= 2);
                CHECK.due("the other channel", right.step(0, 0, band), 15);
            }
        }
    }

    /** Lines of 10 but two: their sum is that of as many 10s, and a little more. */
    private static int[] around(int band, int greatest, int rest) {
        int[] lines = Build.band(4, band, 10);
        int first = 1 << (4 - band);
        lines[first] = greatest;
        lines[3 * first] = rest;
        return lines;
    }

    private static void testTwiceTheStrength() {
        Document.says(CHECK, "whose greatest line without sign is at most twice its strength");
        for (int band = 2; band <= 4; band++) {
            CHECK.due("twice", noisy(4, around(band, 20, 0), EMPTY).step(0, 0, band), -1);
            CHECK.due("twice, below 0", noisy(4, around(band, -20, 0), EMPTY).step(0, 0, band), -1);
            CHECK.due("one more", noisy(4, around(band, 21, 0), EMPTY).step(0, 0, band) > 0, true);
            CHECK.due("one more, below 0", noisy(4, around(band, -21, 0), EMPTY).step(0, 0, band) > 0, true);
            // the strength of 10 less a little is cut to 9
            CHECK.due("twice, of a strength cut", noisy(4, around(band, 18, 1), EMPTY).step(0, 0, band), -1);
            CHECK.due("one more, of a strength cut", noisy(4, around(band, 19, 0), EMPTY).step(0, 0, band) > 0, true);
        }
    }

    private static void testStrengthOfNothing() {
        Document.says(CHECK, "and whose strength is not 0, is told as noise");
        for (int band = 2; band <= 4; band++) {
            CHECK.due("silence", noisy(4, new int[32], EMPTY).step(0, 0, band), 15);
            int[] ones = Build.band(4, band, 1);
            CHECK.due("a strength of 1", noisy(4, ones, EMPTY).step(0, 0, band), -1);
            ones[1 << (4 - band)] = 0;
            CHECK.due("a strength of 0 of some", noisy(4, ones, EMPTY).step(0, 0, band), 15);
        }
    }

    private static String headOf(Maskingtone house) {
        StringBuilder text = new StringBuilder();
        for (int i = 16; i < 64; i++) {
            text.append(house.frameBit(0, i));
        }
        return text.toString();
    }

    private static void testStrengthCut() {
        Document.says(CHECK, "by its strength alone, which is cut to 32767 for that, its lines being coded as 0.");
        int[][] strengths = {{1, 1}, {2, 2}, {32766, 32766}, {32767, 32767}, {32768, 32767}, {40000, 32767}};
        for (int[] pair : strengths) {
            int[] lines = Build.band(2, 2, pair[0]);
            Maskingtone house = noisy(2, lines, EMPTY);
            CHECK.due("strength", house.strength(0, 0, 2), pair[0]);
            CHECK.due("told strength of " + pair[0], headOf(house).substring(10, 26), "1" + Told.binary(pair[1], 15));
            CHECK.due("noise of " + pair[0], house.noise(0, 0, 2), noiseBy(lines, pair[1]));
            CHECK.due("noise anew of " + pair[0], house.noiseAnew(0, 0, 2), noiseBy(lines, pair[1]));
            // 24 bits, five rows of 5, one of 16, and a section of all lines as 0
            CHECK.due("frameBits", house.frameBits(0), 24 + 5 * 5 + 16 + 5 + 64);
            CHECK.due("sectionBits", house.sectionBits(0), 5 + 64);
            CHECK.due("sections", house.sections(0), 1);
        }
    }

    private static int[] noiseOf(int strength, int count) {
        int[] made = new int[count];
        long number = 1;
        for (int i = 0; i < count; i++) {
            number = (number * 1103515245L + 12345L) % (1L << 31);
            made[i] = (int) ((number >> 8) % (2L * strength + 1)) - strength;
        }
        return made;
    }

    private static int noiseBy(int[] lines, int strength) {
        int[] made = noiseOf(strength, 16);
        long sum = 0;
        for (int i = 0; i < 16; i++) {
            sum += Math.abs(lines[2 * i + 1] - made[i]);
        }
        return (int) ((sum + 15) / 16);
    }

    private static void testNoiseMadeAnew() {
        Document.says(CHECK, "Lines of noise are made: the number is 1 at first in each band, goes on as that of the shape 'n', first, and then gives, shifted right by 8, modulo twice the strength plus 1, less the strength.");
        // both bands of both channels begin with the number 1
        int[] left = Build.band(4, 3, 50);
        Build.addBand(left, 4, 4, 70);
        int[] right = Build.band(4, 4, 70);
        Maskingtone house = noisy(4, left, right);
        long[] lines = new long[32];
        int[] third = noiseOf(50, 8);
        int[] fourth = noiseOf(70, 16);
        for (int i = 0; i < 16; i++) {
            lines[2 * i + 1] = fourth[i];
        }
        long[] other = Model.turnedBack(lines, 4);
        for (int i = 0; i < 8; i++) {
            lines[4 * i + 2] = third[i];
        }
        long[] own = Model.turnedBack(lines, 4);
        for (int i = 0; i < 32; i++) {
            CHECK.due("decoded " + i, house.decoded(0, i), (int) own[i]);
            CHECK.due("decoded of the channel 1, " + i, house.decoded(1, i), (int) other[i]);
        }
        for (int strength = 1; strength <= 3; strength++) {
            for (int line : noiseOf(strength, 16)) {
                CHECK.due("within the strength", Math.abs(line) <= strength, true);
            }
        }
    }

    private static void testBandsAndChannels() {
        Maskingtone house = new Maskingtone();
        CHECK.noPlace("step of nothing coded", () -> house.step(0, 0, 0));
        house.shape(0, 'q', 5, 2, 33);
        for (int levels = 1; levels <= 4; levels++) {
            house.setLevels(levels);
            house.code();
            for (int band : new int[] {-1, levels + 1, Integer.MIN_VALUE, Integer.MAX_VALUE}) {
                CHECK.noArgument("step", () -> house.step(0, 0, band));
                CHECK.noArgument("noise", () -> house.noise(1, 1, band));
                CHECK.noArgument("noiseAnew", () -> house.noiseAnew(0, 0, band));
                CHECK.noArgument("bookOf", () -> house.bookOf(1, 1, band));
                CHECK.noPlace("no frame, no band", () -> house.step(2, 0, band));
                CHECK.noPlace("no channel, no band", () -> house.noise(0, 2, band));
                CHECK.noPlace("no frame, no band", () -> house.noiseAnew(-1, 0, band));
                CHECK.noPlace("no channel, no band", () -> house.bookOf(0, -1, band));
            }
            CHECK.due("the last step", house.step(1, 1, levels), 15);
            CHECK.due("the last noise", house.noise(1, 1, levels), 0);
            CHECK.due("the last noise anew", house.noiseAnew(1, 1, levels), 0);
            CHECK.due("the last book", house.bookOf(1, 1, levels), 0);
        }
    }

    private static void testNoiseAnewOfWholeFrames() {
        Document.says(CHECK, "Throws `UnsupportedOperationException` if the frame is not there, or not whole");
        Maskingtone house = Build.exact(1, Build.row(2, 5), EMPTY);
        house.code();
        int noise = house.noise(0, 0, 0);
        CHECK.due("whole", house.noiseAnew(0, 0, 0), noise);
        house.turn(0, 40);
        CHECK.noOperation("not whole", () -> house.noiseAnew(0, 0, 0));
        CHECK.noArgument("not whole, no band", () -> house.noiseAnew(0, 0, 2));
        CHECK.noPlace("not whole, no channel", () -> house.noiseAnew(0, 2, 2));
        CHECK.due("another one", house.noiseAnew(1, 0, 0), house.noise(1, 0, 0));
        house.turn(0, 40);
        CHECK.due("turned back", house.noiseAnew(0, 0, 0), noise);
        house.lose(0);
        CHECK.noOperation("not there", () -> house.noiseAnew(0, 0, 0));
        CHECK.noArgument("not there, no band", () -> house.noiseAnew(0, 0, -1));
        CHECK.due("what was told for its steps stays", house.noise(0, 0, 0), noise);
        house.repair(0);
        CHECK.due("sent again", house.noiseAnew(0, 0, 0), noise);
    }
}
