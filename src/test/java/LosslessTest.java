/** Promises 9 to 16: order, parameter, residual, isStereo, pairBits, allBits, bitOf, returned. */
public final class LosslessTest {
    private static final Check CHECK = new Check();

    public static void main(String[] args) {
        testSilence();
        testRise();
        testOrders();
        testPredictors();
        testMiddleAndSide();
        testExtremes();
        testWrong();
        CHECK.end();
    }

    private static void testSilence() {
        Maskingtone house = new Maskingtone();
        house.shape(1, 'z', 0, 2, 33);
        CHECK.due("order", house.order(0, 1, false), 0);
        CHECK.due("parameter", house.parameter(1, 1, true), 0);
        CHECK.due("isStereo, as it takes as many", house.isStereo(0), false);
        CHECK.due("pairBits", house.pairBits(1), 1 + 2 * (6 + 32));
        CHECK.due("allBits", house.allBits(), 154);
        for (int i = 0; i < 77; i++) {
            CHECK.due("bit " + i, house.bitOf(0, i), 0);
        }
        CHECK.noElement("bit 77", () -> house.bitOf(0, 77));
    }

    /** A rise of 2 each: -64, -62 .., told by -64, 2 and only 0 then. */
    private static void testRise() {
        Maskingtone house = new Maskingtone();
        house.shape(0, 't', 64, 64, 32);
        CHECK.due("order", house.order(0, 0, false), 2);
        CHECK.due("residual", house.residual(0, 0, false, 0), -64);
        CHECK.due("residual", house.residual(0, 0, false, 1), 2);
        CHECK.due("residual", house.residual(0, 0, false, 2), 0);
        CHECK.due("residual", house.residual(0, 0, false, 31), 0);
        CHECK.due("parameter", house.parameter(0, 0, false), 2);
        CHECK.due("isStereo", house.isStereo(0), false);
        CHECK.due("pairBits", house.pairBits(0), 1 + 6 + 128 + 6 + 32);
        String want = "0" + "10" + "0010" + "1".repeat(31) + "0" + "11" + "10" + "00" + "000".repeat(30) + "000000" + "0".repeat(32);
        for (int i = 0; i < want.length(); i++) {
            CHECK.due("bit " + i, house.bitOf(0, i), want.charAt(i) - '0');
        }
        CHECK.noElement("bit behind", () -> house.bitOf(0, 173));
        CHECK.due("residual of the side", house.residual(1, 0, true, 0), -64);
        CHECK.due("residual of the middle", house.residual(0, 0, true, 0), -32);
        CHECK.due("residual of the middle", house.residual(0, 0, true, 1), 1);
    }

    private static Maskingtone with(int... values) {
        Maskingtone house = new Maskingtone();
        house.shape(0, 'z', 0, 2, 32);
        for (int i = 0; i < values.length; i++) {
            house.setSample(0, i, values[i]);
        }
        return house;
    }

    private static void testOrders() {
        Maskingtone same = new Maskingtone();
        same.shape(0, 'q', 500, 64, 32);
        CHECK.due("order of the same, the lowest of several", same.order(0, 0, false), 1);
        CHECK.due("residual", same.residual(0, 0, false, 0), 500);
        CHECK.due("residual", same.residual(0, 0, false, 1), 0);
        int[] squares = new int[32];
        for (int i = 0; i < 32; i++) {
            squares[i] = i * i + 5;
        }
        Maskingtone curve = with(squares);
        CHECK.due("order of squares", curve.order(0, 0, false), 3);
        int[] want = {5, 1, 2, 0, 0, 0};
        for (int i = 0; i < want.length; i++) {
            CHECK.due("residual " + i, curve.residual(0, 0, false, i), want[i]);
        }
        CHECK.due("order of one amount", with(7).order(0, 0, false), 0);
        Maskingtone two = new Maskingtone();
        two.shape(0, 'q', 500, 64, 64);
        CHECK.due("each block begins anew", two.residual(0, 1, false, 0), -500);
    }

    private static void testPredictors() {
        int[] values = {10, 30, 100, -7, 12, 1, 0, 900};
        Maskingtone house = with(values);
        int order = house.order(0, 0, false);
        CHECK.due("order of noise", order, 0);
        for (int i = 0; i < values.length; i++) {
            CHECK.due("residual " + i, house.residual(0, 0, false, i), values[i]);
        }
        // each number, 2 or 1, takes as many bits by 0 as by 1
        Maskingtone even = new Maskingtone();
        even.shape(0, 'q', 1, 2, 32);
        CHECK.due("parameter, the least of several", even.parameter(0, 0, false), 0);
        CHECK.due("pairBits", even.pairBits(0), 1 + 6 + 80 + 6 + 32);
        // 31 numbers of 2 bits and one of 1800
        Maskingtone peaky = new Maskingtone();
        peaky.shape(0, 'q', 1, 2, 32);
        peaky.setSample(0, 31, 900);
        CHECK.due("order", peaky.order(0, 0, false), 0);
        int best = -1;
        int fewest = Integer.MAX_VALUE;
        for (int k = 14; k >= 0; k--) {
            int bits = 16 * ((2 >> k) + 1 + k) + 15 * ((1 >> k) + 1 + k) + (1800 >> k) + 1 + k;
            if (bits <= fewest) {
                fewest = bits;
                best = k;
            }
        }
        CHECK.due("parameter", peaky.parameter(0, 0, false), best);
        CHECK.due("pairBits", peaky.pairBits(0), 1 + 6 + fewest + 6 + 32);
    }

    private static void testMiddleAndSide() {
        Maskingtone house = new Maskingtone();
        house.shape(0, 'n', 16000, 5, 32);
        house.shape(1, 'n', 16000, 5, 32);
        CHECK.due("isStereo of the same", house.isStereo(0), true);
        CHECK.due("first bit", house.bitOf(0, 0), 1);
        CHECK.due("residual of the side", house.residual(1, 0, true, 9), 0);
        CHECK.due("order of the middle", house.order(0, 0, true), house.order(0, 0, false));
        CHECK.due("fewer bits", house.pairBits(0) < 1 + 2 * (6 + 32 * 15), true);
        CHECK.due("returned", house.returned(1, 9), house.sample(1, 9));
        Maskingtone odd = new Maskingtone();
        odd.shape(0, 'z', 0, 2, 32);
        odd.shape(1, 'i', 1, 64, 32);
        CHECK.due("side is 0 less 1", odd.residual(1, 0, true, 0), -1);
        CHECK.due("middle, rounded down", odd.residual(0, 0, true, 0), 0);
        odd.setSample(0, 0, 4);
        odd.setSample(1, 0, 1);
        CHECK.due("side", odd.residual(1, 0, true, 0), 3);
        CHECK.due("middle", odd.residual(0, 0, true, 0), 2);
        CHECK.due("channel 0", odd.residual(0, 0, false, 0), 4);
        CHECK.due("channel 1", odd.residual(1, 0, false, 0), 1);
    }

    private static void testExtremes() {
        Maskingtone house = new Maskingtone();
        house.shape(0, 'n', 16000, 3, 64);
        house.shape(1, 'n', 16000, 4, 40);
        for (int i = 0; i < 32; i++) {
            house.setSample(0, i, i % 2 == 0 ? -32768 : 32767);
            house.setSample(1, i, i % 3 == 0 ? 32767 : -32768);
        }
        for (int i = 0; i < 64; i++) {
            CHECK.due("returned(0, " + i + ")", house.returned(0, i), house.sample(0, i));
            CHECK.due("returned(1, " + i + ")", house.returned(1, i), house.sample(1, i));
        }
        CHECK.due("allBits", house.allBits(), house.pairBits(0) + house.pairBits(1));
        house.setSample(0, 33, 5);
        CHECK.due("returned after setSample", house.returned(0, 33), 5);
    }

    private static void testWrong() {
        Maskingtone house = new Maskingtone();
        CHECK.noPlace("order of none", () -> house.order(0, 0, false));
        CHECK.noPlace("pairBits of none", () -> house.pairBits(0));
        CHECK.noPlace("returned of none", () -> house.returned(0, 0));
        house.shape(0, 'q', 5, 2, 32);
        int[][] wrong = {{-1, 0}, {2, 0}, {0, -1}, {0, 1}};
        for (int[] each : wrong) {
            CHECK.noPlace("order " + each[0] + " " + each[1], () -> house.order(each[0], each[1], true));
            CHECK.noPlace("parameter " + each[0] + " " + each[1], () -> house.parameter(each[0], each[1], false));
            CHECK.noPlace("residual " + each[0] + " " + each[1], () -> house.residual(each[0], each[1], true, 0));
            CHECK.noPlace("returned " + each[0] + " " + each[1], () -> house.returned(each[0], each[1] * 32));
        }
        CHECK.noPlace("residual -1", () -> house.residual(0, 0, false, -1));
        CHECK.noPlace("residual 32", () -> house.residual(0, 0, false, 32));
        CHECK.noPlace("isStereo 1", () -> house.isStereo(1));
        CHECK.noPlace("isStereo -1", () -> house.isStereo(-1));
        CHECK.noPlace("pairBits 1", () -> house.pairBits(1));
        CHECK.noPlace("pairBits -1", () -> house.pairBits(-1));
        CHECK.noPlace("bitOf 1", () -> house.bitOf(1, 0));
        CHECK.noPlace("bitOf -1", () -> house.bitOf(-1, -1));
        CHECK.noElement("bit -1", () -> house.bitOf(0, -1));
    }
}
