/** Promises 40 to 46: lose, turn, repair, fault, decoded, preroll, error. */
public final class LossTest {
    private static final Check CHECK = new Check();

    public static void main(String[] args) {
        testLose();
        testTurn();
        testCauses();
        testUnreadable();
        testTampered();
        testWeightless();
        testRepair();
        testFaded();
        testDecoded();
        testPreroll();
        testError();
        testWrong();
        CHECK.end();
    }

    /** Constant in each block, so that a frame has one or two lines a channel. */
    private static Maskingtone house(int blocks, int value) {
        Maskingtone house = new Maskingtone();
        house.setLevels(4);
        for (int i = 0; i < blocks; i++) {
            house.shape(0, 'q', value, 64, 32);
        }
        house.code();
        return house;
    }

    private static void dueCause(String what, Maskingtone house, int frame, char cause) {
        CHECK.due(what, house.fault(frame, 0), 'f');
        CHECK.due(what, house.fault(frame, 1), cause);
        CHECK.noElement(what + " at depth 2", () -> house.fault(frame, 2));
        CHECK.noElement(what + " at depth -1", () -> house.fault(frame, -1));
    }

    private static void dueWhole(String what, Maskingtone house, int frame) {
        CHECK.noElement(what, () -> house.fault(frame, 0));
        CHECK.noElement(what, () -> house.fault(frame, 1));
    }

    private static void testLose() {
        Maskingtone house = house(3, 500);
        dueWhole("at first", house, 1);
        CHECK.due("lose", house.lose(1), true);
        CHECK.due("lose again", house.lose(1), false);
        dueCause("lost", house, 1, 'l');
        dueWhole("another one", house, 2);
        CHECK.noOperation("noiseAnew", () -> house.noiseAnew(1, 0, 0));
        CHECK.noOperation("turn", () -> house.turn(1, 0));
        CHECK.noElement("turn of no bit", () -> house.turn(1, 4000));
        CHECK.due("frames", house.frames(), 3);
        CHECK.due("frameBit stays", house.frameBit(1, 0), 1);
        CHECK.due("step stays", house.step(1, 0, 1), 15);
    }

    private static void testTurn() {
        int bits = house(2, 500).frameBits(0);
        for (int i = 0; i < bits; i++) {
            Maskingtone house = house(2, 500);
            int before = house.frameBit(0, i);
            CHECK.due("turn", house.turn(0, i), 1 - before);
            CHECK.due("frameBit", house.frameBit(0, i), 1 - before);
            // the sum of the places is of another rest for each bit but the 251st
            dueCause("turned " + i, house, 0, i < 8 ? 's' : i < 16 ? 'n' : 'c');
            CHECK.due("turn back", house.turn(0, i), before);
            dueWhole("turned twice", house, 0);
        }
        Maskingtone house = house(2, 500);
        house.turn(0, 20);
        CHECK.due("lose a turned one", house.lose(0), true);
        dueCause("lost, not turned", house, 0, 'l');
    }

    private static void testCauses() {
        Maskingtone house = house(2, 500);
        house.turn(1, 9);
        house.turn(1, 30);
        dueCause("number ahead of check", house, 1, 'n');
        house.turn(1, 7);
        dueCause("sign ahead of number", house, 1, 's');
        house.turn(1, 7);
        house.turn(1, 9);
        dueCause("check", house, 1, 'c');
        CHECK.noOperation("noiseAnew of one that is not whole", () -> house.noiseAnew(1, 0, 0));
        CHECK.due("noise stays", house.noise(1, 0, 1), 0);
    }

    private static void tamper(String what, Maskingtone house, char cause, int... bits) {
        for (int bit : bits) {
            house.turn(0, bit);
        }
        Told.mend(house, 0);
        if (cause == ' ') {
            dueWhole(what, house, 0);
        } else {
            dueCause(what, house, 0, cause);
        }
    }

    private static Maskingtone silence(int levels) {
        Maskingtone house = new Maskingtone();
        house.shape(0, 'z', 0, 2, 32);
        house.setLevels(levels);
        house.code();
        return house;
    }

    private static void testUnreadable() {
        // 16 bits, 8 bands of 5, a section of 5, 64 codes of 1, 8
        tamper("bits left, a line is 0 by 2 bits", silence(3), 'e', 61);
        tamper("ends too early by a step told as noise", silence(3), 'e', 16);
        tamper("ends too early by a last code", silence(3), 'e', 124);
        tamper("bits left by a longer code", silence(3), 'e', 61, 63);
        tamper("no such book", silence(3), 'e', 56, 57);
        tamper("the section is shorter, what follows is another one", silence(3), 'e', 58);
        tamper("another step", silence(3), ' ', 18);
        // all codes of book 0 are 0 but those of two bits: '10' for two lines leaves one bit less
        tamper("a book of three bits", silence(3), 'e', 57);
        Maskingtone few = silence(3);
        few.setLength(0, 1, 8);
        few.code();
        // without the symbol 1 at 2 bits, '10' is none of the codes
        tamper("a code is none", few, 'e', 70, 71, 72, 73, 74, 75, 76, 77);
        // the second section, of two bands, begins behind 16 + 50 + 5 + 40 bits
        tamper("more bands than there are", silence(4), 'e', 115);
    }

    private static void testTampered() {
        Maskingtone house = new Maskingtone();
        house.shape(0, 'q', 5, 64, 32);
        house.setLevels(4);
        house.code();
        CHECK.due("decoded", house.decoded(0, 0), 6);
        CHECK.due("step", house.step(0, 0, 0), 5);
        // 0101 for the step 5 becomes 0111 for the step 7 of 12
        house.turn(0, 19);
        CHECK.due("not whole", house.decoded(0, 0), 0);
        Told.mend(house, 0);
        CHECK.due("lines are those that its bits tell", house.decoded(0, 0), 12);
        CHECK.due("noiseAnew", house.noiseAnew(0, 0, 0), 7);
        CHECK.due("noise", house.noise(0, 0, 0), 1);
        CHECK.due("step", house.step(0, 0, 0), 5);
        CHECK.due("isSound", house.isSound(), true);
        CHECK.due("repair", house.repair(0), 0);
        CHECK.due("decoded", house.decoded(0, 0), 6);
    }

    /** The place 251 has no weight in the check, and two places 251 apart have the same. */
    private static void testWeightless() {
        Maskingtone house = new Maskingtone();
        house.shape(0, 'n', 16000, 5, 32);
        house.shape(1, 'n', 16000, 7, 32);
        house.code();
        house.turn(0, 250);
        char cause = ' ';
        try {
            cause = house.fault(0, 1);
        } catch (java.util.NoSuchElementException e) {
            cause = ' ';
        }
        CHECK.due("not by its check", cause == ' ' || cause == 'e', true);
    }

    private static void testRepair() {
        Maskingtone house = house(4, 500);
        house.lose(0);
        house.turn(2, 50);
        house.turn(3, 3);
        CHECK.due("repair a whole one", house.repair(1), 3);
        CHECK.due("repair a lost one", house.repair(0), 2);
        CHECK.due("repair a turned one", house.repair(2), 1);
        dueWhole("repaired", house, 2);
        house.lose(3);
        CHECK.due("repair one turned and lost", house.repair(3), 0);
        dueWhole("repaired", house, 3);
        CHECK.due("decoded", house.decoded(0, 100), 512);
    }

    private static void testFaded() {
        Maskingtone house = house(5, 500);
        CHECK.due("decoded", house.decoded(0, 64 + 16), 512);
        house.lose(2);
        house.turn(3, 40);
        // the line at 80 is 512 still and halved, what is told by others is 0
        CHECK.due("half of the frame ahead", house.decoded(0, 80), 256);
        CHECK.due("half of that", house.decoded(0, 112), 128);
        CHECK.due("the next one", house.decoded(0, 144), 512);
        house.lose(0);
        CHECK.due("none ahead", house.decoded(0, 16), 0);
        CHECK.due("not a lost one in between", house.decoded(0, 48), 512);
        house.lose(1);
        CHECK.due("none ahead", house.decoded(0, 80), 0);
        Maskingtone odd = new Maskingtone();
        odd.setLevels(4);
        odd.shape(1, 'q', 7, 64, 32);
        odd.shape(1, 'q', 7, 64, 32);
        odd.shape(0, 'z', 0, 2, 64);
        odd.add(0, 0, -100);
        odd.setQuiet(0, 0);
        odd.code();
        CHECK.due("decoded", odd.decoded(0, 40), -7);
        odd.lose(1);
        CHECK.due("cut towards 0", odd.decoded(0, 48), -3);
        CHECK.due("cut towards 0", odd.decoded(1, 48), 3);
    }

    private static void testDecoded() {
        Maskingtone house = new Maskingtone();
        CHECK.noElement("decoded of nothing", () -> house.decoded(2, -1));
        house.shape(0, 'q', 16000, 2, 64);
        for (int i = 0; i < 64; i++) {
            house.setSample(0, i, i / 8 % 2 == 0 ? 32767 : -32768);
        }
        CHECK.noElement("decoded of nothing coded", () -> house.decoded(0, 0));
        house.setLevels(1);
        house.code();
        for (int i = 0; i < 64; i++) {
            int back = house.decoded(0, i);
            CHECK.due("decoded, cut", back >= -32768 && back <= 32767 && Math.abs(back - house.sample(0, i)) < 500, true);
        }
        CHECK.noPlace("channel 2", () -> house.decoded(2, 0));
        CHECK.noPlace("channel -1", () -> house.decoded(-1, 0));
        CHECK.noPlace("index -1", () -> house.decoded(0, -1));
        CHECK.noPlace("index 64", () -> house.decoded(1, 64));
        CHECK.due("the last of the other", house.decoded(1, 63), 0);
        // small lines come back as they are where all is quiet enough
        Maskingtone exact = new Maskingtone();
        exact.shape(0, 't', 2, 5, 50);
        for (int band = 0; band < 4; band++) {
            exact.setQuiet(band, 0);
        }
        exact.code();
        for (int i = 0; i < 64; i++) {
            CHECK.due("decoded " + i, exact.decoded(0, i), exact.sample(0, i));
        }
        CHECK.due("error", exact.error(0), 0L);
    }

    private static void testPreroll() {
        Maskingtone silent = house(4, 0);
        for (int i = 0; i < 4; i++) {
            CHECK.due("preroll of silence", silent.preroll(i), 0);
        }
        Maskingtone same = house(4, 5000);
        for (int i = 0; i < 4; i++) {
            CHECK.due("preroll of the same, which needs nothing ahead", same.preroll(i), 0);
            CHECK.due("preroll of the same, again", same.preroll(3 - i), 0);
        }
        Maskingtone house = new Maskingtone();
        house.shape(0, 'n', 5000, 7, 64);
        house.shape(0, 'n', 5000, 8, 64);
        house.code();
        CHECK.due("preroll of the first", house.preroll(0), 0);
        CHECK.due("preroll", house.preroll(2), 1);
        house.lose(3);
        house.lose(2);
        CHECK.due("all are there for it", house.preroll(2), 1);
        CHECK.due("still lost", house.fault(3, 1), 'l');
        Maskingtone late = new Maskingtone();
        late.shape(0, 'z', 0, 2, 64);
        late.shape(1, 'q', 5000, 64, 32);
        late.code();
        CHECK.due("by the channel 1", late.preroll(1), 1);
        CHECK.noPlace("preroll 2", () -> late.preroll(2));
        CHECK.noPlace("preroll -1", () -> late.preroll(-1));
        late.setLevels(3);
        CHECK.noPlace("preroll of none", () -> late.preroll(0));
    }

    private static void testError() {
        Maskingtone house = new Maskingtone();
        CHECK.noElement("error of nothing", () -> house.error(0));
        house.shape(0, 'n', 3000, 5, 64);
        house.shape(1, 'n', 300, 6, 40);
        CHECK.noElement("error of nothing coded", () -> house.error(2));
        house.code();
        house.lose(1);
        for (int channel = 0; channel < 2; channel++) {
            long sum = 0;
            for (int i = 0; i < 64; i++) {
                sum += Math.abs(house.decoded(channel, i) - house.sample(channel, i));
            }
            CHECK.due("error", house.error(channel), sum);
        }
        CHECK.noPlace("error(2)", () -> house.error(2));
        CHECK.noPlace("error(-1)", () -> house.error(-1));
    }

    private static void testWrong() {
        Maskingtone house = house(2, 100);
        for (int frame : new int[] {-1, 2}) {
            CHECK.noPlace("lose", () -> house.lose(frame));
            CHECK.noPlace("turn", () -> house.turn(frame, -1));
            CHECK.noPlace("repair", () -> house.repair(frame));
            CHECK.noPlace("fault", () -> house.fault(frame, 3));
        }
        CHECK.noElement("turn -1", () -> house.turn(0, -1));
        CHECK.noElement("turn behind", () -> house.turn(0, house.frameBits(0)));
        CHECK.due("nothing changed", house.repair(1), 0);
        house.turn(0, house.frameBits(0) - 1);
        dueCause("the last bit", house, 0, 'c');
    }
}
