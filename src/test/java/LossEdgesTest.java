/** The edges in the paragraphs "Coming back" and "Faults" and in the promises 40 to 46. */
public final class LossEdgesTest {
    private static final Check CHECK = new Check();
    private static final int[] EMPTY = {};
    /** Of one level: a frame of silence has 16 bits, four steps of 5, a section of 5, 64 codes of 1 and a check. */
    private static final int SECTION = 36;
    private static final int CODES = 41;
    private static final int LAST_CODE = 104;

    public static void main(String[] args) {
        testLoseTwice();
        testEachBitTurned();
        testOrderOfCauses();
        testEndsTooEarly();
        testBitsLeft();
        testReadAgain();
        testCodeIsNone();
        testLongestCode();
        testSections();
        testLinesThatBitsTell();
        testDepths();
        testTurnRange();
        testRepairCounts();
        testFadedLines();
        testFadedToNothing();
        testFadedNoise();
        testNotWholeIsHidden();
        testDecodedCut();
        testDecodedPlaces();
        testDecodedAnew();
        testError();
        testErrorOfAll();
        testPrerollEnds();
        testPrerollOfLittle();
        testPrerollOfOthers();
        testPrerollPlaces();
        CHECK.end();
    }

    private static Maskingtone silence(int blocks) {
        Maskingtone house = Build.ofLines(1, new int[32 * blocks], EMPTY);
        house.code();
        return house;
    }

    private static char causeOf(Maskingtone house, int frame) {
        try {
            char cause = house.fault(frame, 1);
            CHECK.due("what lies above a cause", house.fault(frame, 0), 'f');
            return cause;
        } catch (java.util.NoSuchElementException e) {
            CHECK.noElement("nothing is wrong at the depth 0", () -> house.fault(frame, 0));
            return ' ';
        }
    }

    private static void testLoseTwice() {
        Document.says(CHECK, "Returns true if it was there.");
        Document.says(CHECK, "one that is lost is 'l'.");
        Maskingtone house = silence(2);
        CHECK.due("at first", causeOf(house, 1), ' ');
        CHECK.due("lose", house.lose(1), true);
        CHECK.due("lose again", house.lose(1), false);
        CHECK.due("lost", causeOf(house, 1), 'l');
        CHECK.due("the other one", causeOf(house, 0), ' ');
        house.repair(1);
        CHECK.due("lose one sent again", house.lose(1), true);
        house.turn(0, 0);
        CHECK.due("lose a turned one", house.lose(0), true);
        CHECK.due("lost, whatever was turned", causeOf(house, 0), 'l');
        house.code();
        CHECK.due("coded again", causeOf(house, 0), ' ');
        CHECK.due("lose one coded again", house.lose(0), true);
    }

    private static void testEachBitTurned() {
        Document.says(CHECK, "A frame of which a bit was turned is not whole:");
        int bits = silence(2).frameBits(1);
        for (int i = 0; i < bits; i++) {
            Maskingtone house = silence(2);
            house.turn(1, i);
            CHECK.due("bit " + i, causeOf(house, 1), i < 8 ? 's' : i < 16 ? 'n' : 'c');
            CHECK.due("the other frame", causeOf(house, 0), ' ');
            house.turn(1, i);
            CHECK.due("bit " + i + " turned twice", causeOf(house, 1), ' ');
        }
        // the number of another frame is none of its own
        Maskingtone house = silence(2);
        house.turn(1, 15);
        house.turn(0, 15);
        CHECK.due("the number 0 in the frame 1", causeOf(house, 1), 'n');
        CHECK.due("the number 1 in the frame 0", causeOf(house, 0), 'n');
        Told.mend(house, 1);
        CHECK.due("even if the check is right", causeOf(house, 1), 'n');
    }

    private static void testOrderOfCauses() {
        Document.says(CHECK, "'s' its sign, 'n' its number, 'c' its check is another one, 'e' it cannot be read, as it ends too early, has bits left, or a code is none, looked at in this order;");
        Maskingtone house = silence(1);
        // a book that is none, so that it cannot be read
        house.turn(0, SECTION);
        house.turn(0, SECTION + 1);
        CHECK.due("its check, ahead of what cannot be read", causeOf(house, 0), 'c');
        house.turn(0, 10);
        CHECK.due("its number, ahead of its check", causeOf(house, 0), 'n');
        house.turn(0, 2);
        CHECK.due("its sign, ahead of its number", causeOf(house, 0), 's');
        house.turn(0, 10);
        CHECK.due("its sign, ahead of its check", causeOf(house, 0), 's');
        house.turn(0, 2);
        CHECK.due("its check", causeOf(house, 0), 'c');
        Told.mend(house, 0);
        CHECK.due("none but that it cannot be read", causeOf(house, 0), 'e');
        house.turn(0, 2);
        Told.mend(house, 0);
        CHECK.due("its sign, ahead of what cannot be read", causeOf(house, 0), 's');
        house.lose(0);
        CHECK.due("lost", causeOf(house, 0), 'l');
    }

    private static char turned(Maskingtone house, int... bits) {
        for (int bit : bits) {
            house.turn(0, bit);
        }
        Told.mend(house, 0);
        return causeOf(house, 0);
    }

    private static void testEndsTooEarly() {
        // the last code becomes '1', and what follows it is the check
        CHECK.due("by a bit in the last code", turned(silence(1), LAST_CODE), 'e');
        // '1111111' at the end wants 18 bits more
        CHECK.due("by bits that are more than 7", turned(silence(1), 98, 99, 100, 101, 102, 103, 104), 'e');
        // a step told as noise takes eleven bits more
        CHECK.due("by a band told as noise", turned(silence(1), 16), 'e');
        CHECK.due("by four bands told as noise", turned(silence(1), 16, 21, 26, 31), 'e');
        // three bits each by the book 1
        CHECK.due("by another book", turned(silence(1), SECTION + 1), 'e');
        // the last of 18 bits is turned: the number 8 in place of 7, and none is missing
        Maskingtone house = withLast(-4);
        CHECK.due("by another number", turned(house, house.frameBits(0) - 9), ' ');
        Maskingtone other = withLast(0);
        CHECK.due("by no number", turned(other, other.frameBits(0) - 9), 'e');
    }

    private static Maskingtone withLast(int amount) {
        int[] lines = new int[32];
        lines[1] = 1;
        lines[31] = amount;
        Maskingtone house = Build.exact(1, EMPTY, lines);
        house.code();
        return house;
    }

    private static void testBitsLeft() {
        // '10' is one line in place of two
        CHECK.due("one bit is left", turned(silence(1), CODES, CODES + 2), 'e');
        CHECK.due("many bits are left", turned(silence(1), CODES, CODES + 1, CODES + 2, CODES + 3, CODES + 4), 'e');
    }

    /** What could not be read once can be read again. */
    private static void testReadAgain() {
        Maskingtone house = silence(2);
        CHECK.due("ends too early", turned(house, LAST_CODE), 'e');
        CHECK.due("the other frame", causeOf(house, 1), ' ');
        house.turn(0, LAST_CODE);
        Told.mend(house, 0);
        CHECK.due("turned back", causeOf(house, 0), ' ');
        CHECK.due("ends too early again", turned(house, LAST_CODE), 'e');
        CHECK.due("repair", house.repair(0), 0);
        CHECK.due("sent again", causeOf(house, 0), ' ');
        CHECK.due("noiseAnew", house.noiseAnew(0, 0, 0), 0);
    }

    private static void testCodeIsNone() {
        // without a code of two bits, nothing begins with '10'
        Maskingtone house = Build.ofLines(1, new int[32], EMPTY);
        house.setLength(0, 1, 8);
        house.code();
        CHECK.due("codeOf", house.codeOf(0, 1), 0b11000000);
        CHECK.due("codeOf", house.codeOf(0, 2), 0b100);
        CHECK.due("bits", house.frameBits(0), LAST_CODE + 9);
        // '11111111' is none of the codes, as that of 1 is the last one
        int[] eight = {CODES, CODES + 1, CODES + 2, CODES + 3, CODES + 4, CODES + 5, CODES + 6, CODES + 7};
        CHECK.due("no code", turned(house, eight), 'e');
    }

    private static void testLongestCode() {
        // codes of eight bits are read to their end: the first line becomes 1, of the number 2
        CHECK.due("bits", codesOfEight().frameBits(0), CODES + 64 * 8 + 8);
        CHECK.due("no code of eight bits", turnedFar(codesOfEight(), CODES + 4), 'e');
        Maskingtone house = codesOfEight();
        CHECK.due("a code of eight bits", turnedFar(house, CODES + 6), ' ');
        CHECK.due("its line by the step of 192", house.decoded(0, 0), 192);
    }

    private static Maskingtone codesOfEight() {
        Maskingtone house = Build.ofLines(1, new int[32], EMPTY);
        for (int book = 0; book < 3; book++) {
            for (int symbol = 0; symbol < 8; symbol++) {
                house.setLength(book, symbol, 8);
            }
        }
        house.code();
        return house;
    }

    /** As the bits of the frame are asked of others that were made alike, there are calls left to turn it. */
    private static char turnedFar(Maskingtone house, int bit) {
        String bits = Told.bits(() -> codesOfEight(), 0);
        int end = bits.length() - 8;
        String turned = bits.substring(0, bit) + (bits.charAt(bit) == '0' ? '1' : '0') + bits.substring(bit + 1, end);
        String check = Told.check(turned);
        house.turn(0, bit);
        for (int i = 0; i < 8; i++) {
            if (check.charAt(i) != bits.charAt(end + i)) {
                house.turn(0, end + i);
            }
        }
        return causeOf(house, 0);
    }

    private static void testSections() {
        CHECK.due("a book that is none", turned(silence(1), SECTION, SECTION + 1), 'e');
        // four bands, told as five
        CHECK.due("more bands than there are", turned(silence(1), SECTION + 2, SECTION + 3, SECTION + 4), 'e');
        // two bands, and what follows is read as the five bits of another section
        CHECK.due("fewer bands than there are", turned(silence(1), SECTION + 3), 'e');
    }

    private static void testLinesThatBitsTell() {
        Document.says(CHECK, "As long as none of these is so, its lines are those that its bits tell.");
        // of two lines in the band 0, the first is 5 by the step number 1
        int[] lines = new int[32];
        lines[0] = 5;
        Maskingtone house = Build.exact(4, lines, EMPTY);
        house.code();
        CHECK.due("step", house.step(0, 0, 0), 1);
        CHECK.due("decoded", house.decoded(0, 0), 5);
        // 0001 becomes 0101, and the step 6
        house.turn(0, 18);
        CHECK.due("not whole", house.decoded(0, 0), 0);
        CHECK.due("how many are not", house.repair(0), 0);
        CHECK.due("turned and mended", turned(house, 18), ' ');
        CHECK.due("what its bits tell", house.decoded(0, 0), 30);
        CHECK.due("noiseAnew by that", house.noiseAnew(0, 0, 0), 13);
        CHECK.due("noise as it was told", house.noise(0, 0, 0), 0);
        CHECK.due("step as it was told", house.step(0, 0, 0), 1);
        CHECK.due("isSound of what was coded", house.isSound(), true);
        house.repair(0);
        CHECK.due("decoded", house.decoded(0, 0), 5);
    }

    private static void testDepths() {
        Document.says(CHECK, "Returns 'f' at the depth 0, its cause below.");
        Document.says(CHECK, "Throws `NoSuchElementException` if nothing is wrong, or there is no cause so deep");
        Maskingtone house = silence(2);
        for (int depth : new int[] {0, 1, 2, -1}) {
            CHECK.noElement("nothing is wrong at the depth " + depth, () -> house.fault(0, depth));
        }
        house.lose(0);
        CHECK.due("the depth 0", house.fault(0, 0), 'f');
        CHECK.due("the depth 1", house.fault(0, 1), 'l');
        for (int depth : new int[] {2, -1, Integer.MIN_VALUE, Integer.MAX_VALUE}) {
            CHECK.noElement("the depth " + depth, () -> house.fault(0, depth));
            CHECK.noPlace("no frame and no depth", () -> house.fault(2, depth));
        }
        for (int frame : new int[] {-1, 2, 8, Integer.MIN_VALUE, Integer.MAX_VALUE}) {
            CHECK.noPlace("the frame " + frame, () -> house.fault(frame, 0));
        }
    }

    private static void testTurnRange() {
        Document.says(CHECK, "Returns the bit then.");
        Maskingtone house = silence(2);
        int bits = house.frameBits(0);
        CHECK.due("the first bit", house.turn(0, 0), 0);
        CHECK.due("the first bit again", house.turn(0, 0), 1);
        int last = house.frameBit(0, bits - 1);
        CHECK.due("the last bit", house.turn(0, bits - 1), 1 - last);
        CHECK.due("as it is now", house.frameBit(0, bits - 1), 1 - last);
        for (int index : new int[] {-1, bits, Integer.MIN_VALUE, Integer.MAX_VALUE}) {
            CHECK.noElement("the bit " + index, () -> house.turn(0, index));
            CHECK.noPlace("no frame and no bit", () -> house.turn(-1, index));
        }
        for (int frame : new int[] {-1, 2, 8, Integer.MIN_VALUE, Integer.MAX_VALUE}) {
            CHECK.noPlace("the frame " + frame, () -> house.turn(frame, 0));
        }
        Document.says(CHECK, "Throws `UnsupportedOperationException` if the frame is lost");
        house.lose(0);
        CHECK.noOperation("lost", () -> house.turn(0, 0));
        CHECK.noElement("lost, no bit", () -> house.turn(0, bits));
        CHECK.due("the other one", house.turn(1, 0), 0);
        house.repair(0);
        CHECK.due("as it was sent", house.frameBit(0, bits - 1), last);
        CHECK.due("turned when sent again", house.turn(0, bits - 1), 1 - last);
    }

    private static void testRepairCounts() {
        Document.says(CHECK, "Has a frame sent again, so that it is there and whole.");
        Document.says(CHECK, "Returns how many frames are not.");
        Maskingtone house = silence(8);
        CHECK.due("all are whole", house.repair(7), 0);
        for (int frame = 0; frame < 8; frame++) {
            if (frame % 2 == 0) {
                house.lose(frame);
            } else {
                house.turn(frame, 20 + frame);
            }
        }
        for (int frame = 7; frame >= 0; frame--) {
            CHECK.due("repair " + frame, house.repair(frame), frame);
            CHECK.due("repair " + frame + " again", house.repair(frame), frame);
            CHECK.due("repaired", causeOf(house, frame), ' ');
        }
        house.turn(3, 5);
        house.turn(3, 50);
        house.lose(3);
        CHECK.due("repair another one", house.repair(4), 1);
        CHECK.due("turned and lost", house.repair(3), 0);
        for (int frame : new int[] {-1, 8, Integer.MIN_VALUE, Integer.MAX_VALUE}) {
            CHECK.noPlace("repair " + frame, () -> house.repair(frame));
            CHECK.noPlace("lose " + frame, () -> house.lose(frame));
        }
    }

    private static int[] joined(int[]... blocks) {
        int[] row = new int[32 * blocks.length];
        for (int i = 0; i < blocks.length; i++) {
            System.arraycopy(blocks[i], 0, row, 32 * i, 32);
        }
        return row;
    }

    private static int[] halved(int[] block) {
        int[] row = new int[32];
        for (int i = 0; i < 32; i++) {
            row[i] = block[i] < 0 ? -(-block[i] / 2) : block[i] / 2;
        }
        return row;
    }

    private static void dueDecoded(String what, Maskingtone house, int channel, int levels, int[] lines) {
        long[] row = new long[lines.length];
        for (int i = 0; i < row.length; i++) {
            row[i] = lines[i];
        }
        row = Model.turnedBack(row, levels);
        for (int i = 0; i < row.length; i++) {
            CHECK.due(what + ", channel " + channel + ", decoded " + i, house.decoded(channel, i), (int) row[i]);
        }
    }

    private static void testFadedLines() {
        Document.says(CHECK, "Lines come back from frames that are there and whole. Those of a lost frame are those of the frame ahead, as it came back, each one divided by 2, cut towards 0; without a frame ahead, they are 0.");
        int[] one = Build.row(1, 7, -7, 5, -5, 3, -3, 1, -1, 2, -2, 0, 4);
        int[] two = Build.row(1, 1, 1, -1, -1, 7, -7);
        int[] none = new int[32];
        Maskingtone house = Build.exact(2, joined(one, two, one), joined(two, one, two));
        house.code();
        dueDecoded("all there", house, 0, 2, joined(one, two, one));
        house.lose(1);
        dueDecoded("the second lost", house, 0, 2, joined(one, halved(one), one));
        dueDecoded("the second lost", house, 1, 2, joined(two, halved(two), two));
        Maskingtone more = Build.exact(2, joined(one, two, one), joined(two, one, two));
        more.code();
        more.lose(1);
        more.lose(2);
        dueDecoded("two lost", more, 0, 2, joined(one, halved(one), halved(halved(one))));
        more.lose(0);
        dueDecoded("all lost", more, 1, 2, joined(none, none, none));
        Maskingtone first = Build.exact(2, joined(one, two, one), joined(two, one, two));
        first.code();
        first.lose(0);
        dueDecoded("the first lost", first, 0, 2, joined(none, two, one));
        first.repair(0);
        first.lose(2);
        dueDecoded("the last lost", first, 1, 2, joined(two, one, halved(one)));
    }

    private static void testFadedToNothing() {
        int[] one = Build.row(1, 7, -7);
        int[] none = new int[32];
        Maskingtone house = Build.exact(1, joined(one, one, one, one, one, none, one, none), EMPTY);
        house.code();
        for (int frame = 1; frame < 5; frame++) {
            house.lose(frame);
        }
        house.lose(7);
        dueDecoded("7, 3, 1 and 0", house, 0, 1,
            joined(one, Build.row(1, 3, -3), Build.row(1, 1, -1), none, none, none, one, Build.row(1, 3, -3)));
    }

    private static void testFadedNoise() {
        Maskingtone house = new Maskingtone();
        house.shape(0, 'q', 50, 2, 64);
        house.setLevels(2);
        house.setNoise(true);
        house.code();
        CHECK.due("noise", house.step(0, 0, 2), -1);
        // what came back was made, and is halved as it is
        int[] made = new int[32];
        long number = 1;
        for (int i = 0; i < 16; i++) {
            number = (number * 1103515245L + 12345L) % (1L << 31);
            made[2 * i + 1] = (int) ((number >> 8) % 201) - 100;
        }
        house.lose(1);
        dueDecoded("noise that fades", house, 0, 2, joined(made, halved(made)));
    }

    private static void testNotWholeIsHidden() {
        int[] one = Build.row(1, 7, -7, 5);
        int[] two = Build.row(1, 1, 1, -1);
        Maskingtone house = Build.exact(1, joined(one, two, two), EMPTY);
        house.code();
        house.turn(1, 50);
        dueDecoded("not whole", house, 0, 1, joined(one, halved(one), two));
        house.turn(1, 50);
        dueDecoded("turned back", house, 0, 1, joined(one, two, two));
        house.lose(0);
        house.turn(1, 3);
        house.turn(2, 9);
        dueDecoded("one lost, two not whole", house, 0, 1, new int[96]);
    }

    private static void testDecodedCut() {
        Document.says(CHECK, "Returns a sample as it comes back from frames, cut to what a sample can be.");
        // 32767 and -32768 by the step of 192 are 171 and -171, and come back as 32832 and -32832
        Maskingtone house = Build.ofSamples(Build.all(32, 32767), Build.all(32, -32768));
        house.setLevels(4);
        house.code();
        CHECK.due("step", house.step(0, 0, 0), 15);
        CHECK.due("noise", house.noise(0, 0, 0), 65);
        CHECK.due("noise", house.noise(0, 1, 0), 64);
        for (int i = 0; i < 32; i++) {
            CHECK.due("the greatest", house.decoded(0, i), 32767);
            CHECK.due("the least", house.decoded(1, i), -32768);
        }
        CHECK.due("error of what was cut", house.error(0), 0L);
        CHECK.due("error of what was cut", house.error(1), 0L);
        CHECK.due("isSound", house.isSound(), true);
        // 32736 is within: 170 and a half
        Maskingtone within = Build.ofSamples(Build.all(32, 32735), Build.all(32, -32736));
        within.setLevels(4);
        within.code();
        CHECK.due("within", within.decoded(0, 0), 170 * 192);
        CHECK.due("cut", within.decoded(1, 0), -32768);
        CHECK.due("error", within.error(0), 32L * (32735 - 170 * 192));
        CHECK.due("error", within.error(1), 32L * 32);
    }

    private static void testDecodedPlaces() {
        Document.says(CHECK, "Throws `NoSuchElementException` if nothing was coded");
        Maskingtone house = new Maskingtone();
        CHECK.noElement("no samples", () -> house.decoded(0, 0));
        CHECK.noElement("no samples, no channel", () -> house.decoded(2, 0));
        house.shape(0, 'q', 9, 64, 33);
        CHECK.noElement("nothing coded", () -> house.decoded(0, 0));
        CHECK.noElement("nothing coded, no index", () -> house.decoded(0, 64));
        house.code();
        for (int channel : new int[] {-1, 2, Integer.MIN_VALUE, Integer.MAX_VALUE}) {
            CHECK.noPlace("the channel " + channel, () -> house.decoded(channel, 0));
            CHECK.noPlace("no error of it", () -> house.error(channel));
        }
        for (int index : new int[] {-1, 64, 255, 256, Integer.MIN_VALUE, Integer.MAX_VALUE}) {
            CHECK.noPlace("the index " + index, () -> house.decoded(1, index));
        }
        CHECK.due("the last one", house.decoded(1, 63), 0);
        house.lose(0);
        house.lose(1);
        CHECK.due("all lost", house.decoded(0, 63), 0);
        CHECK.due("the first one", house.decoded(0, 0), 0);
    }

    /** What comes back is found anew behind each call that tells something else. */
    private static void testDecodedAnew() {
        Maskingtone house = Build.exact(1, joined(Build.row(1, 9, 3), Build.row(1, 5, 3)), EMPTY);
        house.code();
        int first = house.decoded(0, 0);
        CHECK.due("there", first, house.sample(0, 0));
        house.lose(0);
        CHECK.due("lost", house.decoded(0, 0), 0);
        house.code();
        CHECK.due("coded again", house.decoded(0, 0), first);
        house.turn(0, 0);
        CHECK.due("turned", house.decoded(0, 0), 0);
        house.turn(0, 0);
        CHECK.due("turned back", house.decoded(0, 0), first);
        house.lose(0);
        CHECK.due("lost", house.decoded(0, 0), 0);
        house.repair(0);
        CHECK.due("repaired", house.decoded(0, 0), first);
        house.lose(0);
        CHECK.due("error when lost", house.error(0) > 0, true);
        house.code();
        CHECK.due("error when coded again", house.error(0), 0L);
        house.setSample(0, 0, 500);
        house.setSample(0, 1, 500);
        house.code();
        CHECK.due("coded from others", Math.abs(house.decoded(0, 0) - 500) < 100, true);
        house.preroll(1);
        house.isSound();
        CHECK.due("as it was", Math.abs(house.decoded(0, 0) - 500) < 100, true);
    }

    private static void testError() {
        Document.says(CHECK, "Returns the sum of the amounts by which decoded samples are not those of a channel.");
        Maskingtone house = new Maskingtone();
        CHECK.noElement("no samples", () -> house.error(0));
        CHECK.noElement("no samples, no channel", () -> house.error(-1));
        house.shape(0, 'q', 9, 64, 33);
        CHECK.noElement("nothing coded", () -> house.error(2));
        house.code();
        CHECK.due("of an empty channel", house.error(1), 0L);
        // what comes back behind the last sample counts, too
        long sum = 0;
        for (int i = 0; i < 64; i++) {
            sum += Math.abs(house.decoded(0, i) - house.sample(0, i));
        }
        CHECK.due("to the end of the last block", house.error(0), sum);
    }

    private static void testErrorOfAll() {
        Maskingtone house = new Maskingtone();
        for (int i = 0; i < 8; i++) {
            house.shape(0, 'q', 16000, 64, 32);
            house.shape(1, 'q', 16000, 64, 32);
        }
        for (int i = 0; i < 2; i++) {
            house.add(0, 0, 100);
            house.add(1, 0, 100);
            house.add(1, 0, -100);
        }
        house.setLevels(4);
        house.code();
        for (int frame = 0; frame < 8; frame++) {
            house.lose(frame);
        }
        CHECK.due("all of a channel", house.error(0), 256L * house.sample(0, 0));
        CHECK.due("as loud as can be", house.sample(0, 255) >= 32000, true);
        CHECK.due("all of the other one", house.error(1), 256L * Math.abs(house.sample(1, 0)));
    }

    private static void testPrerollEnds() {
        Document.says(CHECK, "Returns the least number of frames, from this one on, behind which, up to the end, nothing is otherwise.");
        Maskingtone house = new Maskingtone();
        for (int i = 0; i < 4; i++) {
            house.shape(1, 'n', 9000, 7 + i, 64);
        }
        house.code();
        CHECK.due("of the first, which has none ahead", house.preroll(0), 0);
        for (int frame = 1; frame < 8; frame++) {
            CHECK.due("of " + frame, house.preroll(frame), 1);
        }
        CHECK.due("of the first again", house.preroll(0), 0);
        // the last line ahead is all that is missed, and is asked for by the first sample of the frame
        int[] lines = new int[64];
        lines[31] = 4;
        Maskingtone last = Build.exact(1, EMPTY, lines);
        last.code();
        CHECK.due("by the last line ahead", last.preroll(1), 1);
        lines[31] = 0;
        lines[30] = 4;
        Maskingtone even = Build.exact(1, EMPTY, lines);
        even.code();
        CHECK.due("by none that is asked for", even.preroll(1), 0);
    }

    /** The lines beside the first sample of a frame, 1 and 1, come to 1 by their sum and 2; 0 and 1 come to 0. */
    private static void testPrerollOfLittle() {
        for (int channel = 0; channel < 2; channel++) {
            for (int ahead = 0; ahead < 2; ahead++) {
                int[] lines = new int[64];
                lines[31] = ahead;
                lines[33] = 1;
                Maskingtone house = Build.exact(1, channel == 0 ? lines : EMPTY, channel == 1 ? lines : EMPTY);
                house.code();
                CHECK.due("a line of " + ahead + " ahead", house.preroll(1), ahead);
                CHECK.due("none ahead", house.preroll(0), 0);
                CHECK.due("a line of " + ahead + " ahead, again", house.preroll(1), ahead);
            }
        }
    }

    private static void testPrerollOfOthers() {
        Document.says(CHECK, "if those ahead of this one are not, and all from it on are there and whole; lines of frames that are not there being 0.");
        for (int channel = 0; channel < 2; channel++) {
            Maskingtone same = new Maskingtone();
            for (int i = 0; i < 8; i++) {
                same.shape(channel, 'q', 5000, 64, 32);
            }
            same.setLevels(4);
            same.code();
            for (int frame = 0; frame < 8; frame++) {
                CHECK.due("the same all the time, " + frame, same.preroll(frame), 0);
                CHECK.due("the same all the time, " + (7 - frame), same.preroll(7 - frame), 0);
            }
        }
        Maskingtone house = new Maskingtone();
        house.shape(0, 'n', 5000, 7, 64);
        house.shape(0, 'n', 5000, 8, 64);
        house.code();
        for (int frame = 0; frame < 4; frame++) {
            house.lose(frame);
        }
        CHECK.due("as if all were there", house.preroll(1), 1);
        CHECK.due("as if all were there", house.preroll(3), 1);
        house.repair(2);
        house.turn(2, 40);
        CHECK.due("and whole", house.preroll(2), 1);
        CHECK.due("nothing is repaired", causeOf(house, 2), 'c');
        CHECK.due("nothing is repaired", causeOf(house, 3), 'l');
        CHECK.due("decoded as it was", house.decoded(0, 5), 0);
    }

    private static void testPrerollPlaces() {
        Maskingtone house = new Maskingtone();
        CHECK.noPlace("of none", () -> house.preroll(0));
        house.shape(0, 'q', 9, 64, 33);
        CHECK.noPlace("of none coded", () -> house.preroll(0));
        house.code();
        for (int frame : new int[] {-1, 2, 8, Integer.MIN_VALUE, Integer.MAX_VALUE}) {
            CHECK.noPlace("of " + frame, () -> house.preroll(frame));
        }
        CHECK.due("of the last one", house.preroll(1) <= 1, true);
    }
}
