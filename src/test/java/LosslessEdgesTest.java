/** The edges in the paragraph "Without loss" and in the promises 9 to 16. */
public final class LosslessEdgesTest {
    private static final Check CHECK = new Check();
    private static final int[] EMPTY = {};

    public static void main(String[] args) {
        testOrderAtMostThePlace();
        testEachBlockAnew();
        testLowestOrder();
        testSumWithoutSigns();
        testNumbers();
        testLeastParameter();
        testParameters();
        testGreatestParameter();
        testFewerBits();
        testMiddle();
        testWholePairs();
        testGreatestResiduals();
        testFoundAnew();
        testNone();
        testPlaces();
        CHECK.end();
    }

    private static void testOrderAtMostThePlace() {
        Document.says(CHECK, "A block is predicted by an order from 0 to 3: at the place i, the order is at most i");
        int[] cubes = new int[32];
        for (int i = 0; i < 32; i++) {
            cubes[i] = i * i * i + 100;
        }
        Maskingtone house = Build.ofSamples(cubes, EMPTY);
        CHECK.due("order", house.order(0, 0, false), 3);
        int[] want = {100, 1, 6, 6, 6, 6};
        for (int i = 0; i < want.length; i++) {
            CHECK.due("residual " + i, house.residual(0, 0, false, i), want[i]);
        }
        CHECK.due("residual 31", house.residual(0, 0, false, 31), 6);
        int[] squares = new int[32];
        int[] line = new int[32];
        for (int i = 0; i < 32; i++) {
            squares[i] = i * i + 100;
            line[i] = 7 * i + 100;
        }
        Maskingtone two = Build.ofSamples(line, Build.all(32, 100));
        CHECK.due("order of a line", two.order(0, 0, false), 2);
        CHECK.due("place 0", two.residual(0, 0, false, 0), 100);
        CHECK.due("place 1", two.residual(0, 0, false, 1), 7);
        CHECK.due("place 2", two.residual(0, 0, false, 2), 0);
        CHECK.due("order of the same", two.order(1, 0, false), 1);
        CHECK.due("place 0", two.residual(1, 0, false, 0), 100);
        CHECK.due("place 1", two.residual(1, 0, false, 1), 0);
        Maskingtone curve = Build.ofSamples(squares, new int[] {0, 0, 0, 0, 9});
        CHECK.due("order of squares", curve.order(0, 0, false), 3);
        CHECK.due("place 2", curve.residual(0, 0, false, 2), 2);
        CHECK.due("place 3", curve.residual(0, 0, false, 3), 0);
        CHECK.due("order of one amount", curve.order(1, 0, false), 0);
        CHECK.due("its place", curve.residual(1, 0, false, 4), 9);
        CHECK.due("behind its place", curve.residual(1, 0, false, 5), 0);
    }

    private static void testEachBlockAnew() {
        Document.says(CHECK, "A block has 32 samples of a channel.");
        Maskingtone house = Build.ofSamples(Build.all(65, 70), EMPTY);
        for (int block = 0; block < 2; block++) {
            CHECK.due("order", house.order(0, block, false), 1);
            CHECK.due("residual 0, as if nothing were ahead", house.residual(0, block, false, 0), 70);
            CHECK.due("residual 31", house.residual(0, block, false, 31), 0);
        }
        CHECK.due("order of the last one", house.order(0, 2, false), 0);
        CHECK.due("residual 0", house.residual(0, 2, false, 0), 70);
        CHECK.due("residual 1, of 0 at its end", house.residual(0, 2, false, 1), 0);
    }

    private static void testLowestOrder() {
        Document.says(CHECK, "The order is the one with the least sum of residuals without signs, of several the lowest");
        CHECK.due("silence, by all", Build.ofSamples(Build.all(32, 0), EMPTY).order(0, 0, false), 0);
        int[] last = new int[32];
        last[31] = 7;
        CHECK.due("the last one, by all", Build.ofSamples(last, EMPTY).order(0, 0, false), 0);
        CHECK.due("the same, by 1 to 3", Build.ofSamples(Build.all(32, -7), EMPTY).order(0, 0, false), 1);
        int[] rise = new int[32];
        for (int i = 0; i < 32; i++) {
            rise[i] = -3 * i;
        }
        CHECK.due("a line, by 2 and 3", Build.ofSamples(rise, EMPTY).order(0, 0, false), 2);
        int[] even = new int[32];
        even[30] = 4;
        even[31] = 8;
        // 12 by the order 0, 4 + 4 by 1, 4 + 0 by 2
        CHECK.due("a bend at the end", Build.ofSamples(even, EMPTY).order(0, 0, false), 2);
        even[30] = 4;
        even[31] = 4;
        // 8 by 0, 4 by 1, 4 + 4 by 2
        CHECK.due("a step at the end", Build.ofSamples(even, EMPTY).order(0, 0, false), 1);
        even[30] = 8;
        even[31] = 4;
        // 12 by 0, 8 + 4 by 1
        CHECK.due("by 0 and 1", Build.ofSamples(even, EMPTY).order(0, 0, false), 0);
    }

    private static void testSumWithoutSigns() {
        // with their signs, the residuals of 1, 8 and -8 by turns, would come to less by the order 1
        int[] turns = new int[32];
        for (int i = 0; i < 32; i++) {
            turns[i] = i % 2 == 0 ? -8 : 8;
        }
        Maskingtone house = Build.ofSamples(turns, EMPTY);
        CHECK.due("order of turns", house.order(0, 0, false), 0);
        CHECK.due("residual", house.residual(0, 0, false, 0), -8);
        CHECK.due("residual", house.residual(0, 0, false, 31), 8);
    }

    private static long numberOf(long residual) {
        return residual < 0 ? -2 * residual - 1 : 2 * residual;
    }

    private static String blockBits(int order, int parameter, int[] residuals) {
        StringBuilder text = new StringBuilder(Told.binary(order, 2) + Told.binary(parameter, 4));
        for (int residual : residuals) {
            long number = numberOf(residual);
            text.append("1".repeat((int) (number >> parameter))).append('0').append(Told.binary(number, parameter));
        }
        return text.toString();
    }

    private static int bestParameter(int[] residuals) {
        int best = 0;
        long fewest = Long.MAX_VALUE;
        for (int k = 0; k <= 14; k++) {
            long bits = 0;
            for (int residual : residuals) {
                bits += (numberOf(residual) >> k) + 1 + k;
            }
            best = bits < fewest ? k : best;
            fewest = Math.min(fewest, bits);
        }
        return best;
    }

    private static void testNumbers() {
        Document.says(CHECK, "of a residual r, the number is 2 r, or -2 r - 1 if it is below 0.");
        Document.says(CHECK, "so many 1s, a 0, and the last k bits, the greatest first.");
        for (int value : new int[] {0, 1, -1, 2, -2, 50, -50, 32767, -32768}) {
            int[] first = Build.row(1, value);
            int k = bestParameter(first);
            String want = "0" + blockBits(0, k, first) + blockBits(0, 0, new int[32]);
            CHECK.due("parameter of " + value, Build.ofSamples(first, EMPTY).parameter(0, 0, false), k);
            CHECK.due("bits of " + value, Told.pairBits(() -> Build.ofSamples(first, EMPTY), 0), want);
            CHECK.due("returned " + value, Build.ofSamples(first, EMPTY).returned(0, 0), value);
        }
    }

    private static int[] byTurns(int one, int two) {
        int[] row = new int[32];
        for (int i = 0; i < 32; i++) {
            row[i] = i % 2 == 0 ? one : two;
        }
        return row;
    }

    private static void testLeastParameter() {
        Document.says(CHECK, "the parameter the one with the fewest bits, of several the least.");
        CHECK.due("silence", Build.ofSamples(new int[32], EMPTY).parameter(0, 0, false), 0);
        // the numbers 2 and 1 take 3 + 2 bits by 0, 3 + 2 by 1
        CHECK.due("0 and 1", Build.ofSamples(byTurns(1, -1), EMPTY).parameter(0, 0, false), 0);
        // the numbers 3 and 2 take 4 + 3 bits by 0, 3 + 3 by 1 and by 2
        CHECK.due("1 and 2", Build.ofSamples(byTurns(-2, 1), EMPTY).parameter(0, 0, false), 1);
        CHECK.due("1 and 2", Build.ofSamples(byTurns(-2, 1), EMPTY).pairBits(0), 1 + 6 + 96 + 6 + 32);
    }

    private static void testParameters() {
        Document.says(CHECK, "With the parameter k, 0 to 14, it takes the number shifted right by k, plus 1, plus k bits");
        boolean[] isMet = new boolean[15];
        for (int amount = 1; amount <= 32767; amount = amount * 3 / 2 + 1) {
            int[] row = byTurns(amount, -amount);
            int k = bestParameter(row);
            isMet[k] = true;
            Maskingtone house = Build.ofSamples(row, EMPTY);
            CHECK.due("parameter of " + amount, house.parameter(0, 0, false), k);
            int bits = 1 + blockBits(0, k, row).length() + blockBits(0, 0, new int[32]).length();
            CHECK.due("pairBits of " + amount, house.pairBits(0), bits);
        }
        for (int k = 0; k <= 14; k++) {
            CHECK.due("a parameter of " + k, isMet[k], true);
        }
    }

    private static void testGreatestParameter() {
        // the numbers of the side are 131070 and 131069: by 15, they would take 19 bits and not 22
        Maskingtone house = Build.ofSamples(byTurns(32767, -32768), byTurns(-32768, 32767));
        CHECK.due("order", house.order(1, 0, true), 0);
        CHECK.due("residual", house.residual(1, 0, true, 0), 65535);
        CHECK.due("residual", house.residual(1, 0, true, 1), -65535);
        CHECK.due("not 15", house.parameter(1, 0, true), 14);
        CHECK.due("of the channel", house.parameter(0, 0, false), 14);
        CHECK.due("of the middle", house.parameter(0, 0, true), 0);
        CHECK.due("isStereo", house.isStereo(0), true);
        CHECK.due("pairBits", house.pairBits(0), 1 + 6 + 2 + 31 + 6 + 32 * 22);
        String bits = Told.pairBits(() -> Build.ofSamples(byTurns(32767, -32768), byTurns(-32768, 32767)), 0);
        CHECK.due("its four bits", bits.substring(1 + 6 + 33 + 2, 1 + 6 + 33 + 6), "1110");
        CHECK.due("returned", house.returned(0, 0), 32767);
        CHECK.due("returned", house.returned(1, 31), 32767);
    }

    private static void testFewerBits() {
        Document.says(CHECK, "they are told so, the middle in place of the channel 0 and the side in place of 1, if this takes fewer bits.");
        Maskingtone more = Build.ofSamples(Build.row(1, -1), Build.row(1, 0));
        CHECK.due("one more", more.isStereo(0), false);
        CHECK.due("one more", more.pairBits(0), 1 + 77);
        Maskingtone same = Build.ofSamples(Build.row(1, 1), Build.row(1, 0));
        CHECK.due("as many", same.isStereo(0), false);
        CHECK.due("as many", same.bitOf(0, 0), 0);
        CHECK.due("as many", same.pairBits(0), 1 + 78);
        Maskingtone fewer = Build.ofSamples(Build.row(1, 0), Build.row(1, 1));
        CHECK.due("one fewer", fewer.isStereo(0), true);
        CHECK.due("one fewer", fewer.bitOf(0, 0), 1);
        CHECK.due("one fewer", fewer.pairBits(0), 1 + 77);
        // the middle is 0, the side -1: the number 1 is told behind the order and the parameter of the side
        String want = "1" + blockBits(0, 0, new int[32]) + blockBits(0, 0, Build.row(1, -1));
        CHECK.due("its bits", Told.pairBits(() -> Build.ofSamples(Build.row(1, 0), Build.row(1, 1)), 0), want);
        // each pair by itself
        Maskingtone two = Build.ofSamples(new int[64], Build.row(1, 1));
        CHECK.due("the first pair", two.isStereo(0), true);
        CHECK.due("the second pair", two.isStereo(1), false);
    }

    private static void dueMiddle(int left, int right, int middle, int side) {
        Maskingtone house = Build.ofSamples(Build.row(1, left), Build.row(1, right));
        String what = " of " + left + " and " + right;
        CHECK.due("middle" + what, house.residual(0, 0, true, 0), middle);
        CHECK.due("side" + what, house.residual(1, 0, true, 0), side);
        CHECK.due("channel 0" + what, house.residual(0, 0, false, 0), left);
        CHECK.due("channel 1" + what, house.residual(1, 0, false, 0), right);
        CHECK.due("returned" + what, house.returned(0, 0), left);
        CHECK.due("returned" + what, house.returned(1, 0), right);
    }

    private static void testMiddle() {
        Document.says(CHECK, "the side is that of 0 less that of 1, the middle is that of 1 plus the side divided by 2, rounded down");
        dueMiddle(1, 0, 0, 1);
        dueMiddle(0, 1, 0, -1);
        dueMiddle(-1, 0, -1, -1);
        dueMiddle(0, -1, -1, 1);
        dueMiddle(-1, -2, -2, 1);
        dueMiddle(-2, -1, -2, -1);
        dueMiddle(5, 2, 3, 3);
        dueMiddle(2, 5, 3, -3);
        dueMiddle(32767, -32768, -1, 65535);
        dueMiddle(-32768, 32767, -1, -65535);
        dueMiddle(32767, 32767, 32767, 0);
        dueMiddle(-32768, -32768, -32768, 0);
    }

    private static int[] residualsOf(Maskingtone house, int channel, int block, boolean isSide) {
        int[] row = new int[32];
        for (int i = 0; i < 32; i++) {
            row[i] = house.residual(channel, block, isSide, i);
        }
        return row;
    }

    private static void duePair(String what, java.util.function.Supplier<Maskingtone> made, int block) {
        Maskingtone house = made.get();
        boolean isSide = house.isStereo(block);
        StringBuilder want = new StringBuilder(isSide ? "1" : "0");
        for (int channel = 0; channel < 2; channel++) {
            int[] residuals = residualsOf(house, channel, block, isSide);
            CHECK.due("parameter of " + what, house.parameter(channel, block, isSide), bestParameter(residuals));
            want.append(blockBits(house.order(channel, block, isSide), bestParameter(residuals), residuals));
        }
        CHECK.due("bits of " + what, Told.pairBits(made, block), want.toString());
        CHECK.due("pairBits of " + what, house.pairBits(block), want.length());
        CHECK.due("the last bit of " + what, house.bitOf(block, want.length() - 1), want.charAt(want.length() - 1) - '0');
        CHECK.noElement("behind the last bit of " + what, () -> house.bitOf(block, want.length()));
        CHECK.noElement("ahead of the first bit of " + what, () -> house.bitOf(block, -1));
        for (int i = 32 * block; i < 32 * block + 32; i++) {
            CHECK.due("returned of " + what, house.returned(0, i), house.sample(0, i));
            CHECK.due("returned of " + what, house.returned(1, i), house.sample(1, i));
        }
    }

    private static void testWholePairs() {
        Document.says(CHECK, "A pair takes 1 bit, which is 1 for the middle and the side, and then, for each block, 2 for the order, 4 for the parameter, and its residuals; numbers have the greatest bit first.");
        duePair("two rises", () -> Build.ofSamples(byTurns(3, 9), byTurns(4, 9)), 0);
        duePair("the extremes", () -> Build.ofSamples(byTurns(32767, -32768), byTurns(-32768, 32767)), 0);
        duePair("the least of all", () -> Build.ofSamples(Build.all(32, -32768), Build.all(32, -32768)), 0);
        duePair("the greatest and the least", () -> Build.ofSamples(Build.all(32, 32767), Build.all(32, -32768)), 0);
        duePair("noise", () -> {
            Maskingtone house = new Maskingtone();
            house.shape(0, 'n', 16000, 3, 64);
            house.shape(1, 'n', 16000, 4, 64);
            return house;
        }, 1);
        duePair("a rise and its half", () -> {
            Maskingtone house = new Maskingtone();
            house.shape(0, 't', 16000, 64, 64);
            house.shape(1, 't', 8000, 64, 64);
            return house;
        }, 1);
    }

    /** By the order 3, a residual may be eight times as great as a sample. */
    private static void testGreatestResiduals() {
        int[] rise = new int[32];
        for (int i = 0; i < 32; i++) {
            rise[i] = i < 28 ? i * i * i - 8000 : i % 2 == 0 ? 32767 : -32768;
        }
        duePair("a curve that breaks off", () -> Build.ofSamples(rise, EMPTY), 0);
        int[] late = new int[32];
        for (int i = 0; i < 32; i++) {
            late[i] = i < 16 ? -32768 : 32767;
        }
        duePair("a step as high as can be", () -> Build.ofSamples(late, byTurns(-32768, 32767)), 0);
    }

    /** Nothing stays of what was found for other samples. */
    private static void testFoundAnew() {
        Maskingtone house = new Maskingtone();
        house.shape(0, 't', 16000, 64, 32);
        house.shape(1, 't', 14000, 64, 32);
        CHECK.due("order of a rise", house.order(0, 0, false), 2);
        CHECK.due("parameter of a rise", house.parameter(0, 0, false) > 0, true);
        CHECK.due("isStereo of rises", house.isStereo(0), true);
        int bits = house.pairBits(0);
        house.clear();
        house.shape(0, 'q', 1, 2, 32);
        CHECK.due("order", house.order(0, 0, false), 0);
        CHECK.due("parameter", house.parameter(0, 0, false), 0);
        CHECK.due("residual", house.residual(0, 0, false, 1), -1);
        CHECK.due("isStereo", house.isStereo(0), false);
        CHECK.due("pairBits", house.pairBits(0), 1 + 6 + 80 + 6 + 32);
        CHECK.due("pairBits before were others", bits != house.pairBits(0), true);
        CHECK.noElement("no bit is left", () -> house.bitOf(0, 125));
        CHECK.due("returned", house.returned(0, 31), -1);
        house.add(0, 0, 0);
        house.setSample(0, 31, 700);
        CHECK.due("residual of another sample", house.residual(0, 0, false, 31), 700);
        house.limit(70);
        CHECK.due("residual of a smaller sample", house.residual(0, 0, false, 31), 70);
        house.add(1, 0, 100);
        CHECK.due("residual of a sample added to", house.residual(1, 0, false, 31), 0);
        house.shape(1, 'z', 0, 2, 32);
        house.add(1, 0, 100);
        CHECK.due("residual of a sample added to", house.residual(1, 0, false, 31), 70);
    }

    private static void testNone() {
        Document.says(CHECK, "Returns how many bits all pairs take.");
        Maskingtone house = new Maskingtone();
        CHECK.due("allBits of none", house.allBits(), 0);
        CHECK.noPlace("order of none", () -> house.order(0, 0, false));
        CHECK.noPlace("parameter of none", () -> house.parameter(0, 0, true));
        CHECK.noPlace("residual of none", () -> house.residual(0, 0, false, 0));
        CHECK.noPlace("isStereo of none", () -> house.isStereo(0));
        CHECK.noPlace("pairBits of none", () -> house.pairBits(0));
        CHECK.noPlace("bitOf of none", () -> house.bitOf(0, 0));
        CHECK.noPlace("returned of none", () -> house.returned(0, 0));
        for (int i = 0; i < 4; i++) {
            house.shape(1, 'z', 0, 2, 64);
        }
        CHECK.due("allBits of eight", house.allBits(), 8 * 77);
        house.setSample(1, 255, 1);
        CHECK.due("the last pair", house.allBits(), 8 * 77 + 1);
        CHECK.due("the last pair", house.pairBits(7), 78);
        house.clear();
        CHECK.due("allBits of none again", house.allBits(), 0);
    }

    private static void testPlaces() {
        Maskingtone house = new Maskingtone();
        house.shape(1, 'q', 5, 2, 33);
        for (int channel : new int[] {-1, 2, Integer.MIN_VALUE, Integer.MAX_VALUE}) {
            CHECK.noPlace("order of the channel " + channel, () -> house.order(channel, 0, false));
            CHECK.noPlace("parameter of the channel " + channel, () -> house.parameter(channel, 0, false));
            CHECK.noPlace("residual of the channel " + channel, () -> house.residual(channel, 0, false, 0));
            CHECK.noPlace("returned of the channel " + channel, () -> house.returned(channel, 0));
        }
        for (int block : new int[] {-1, 2, Integer.MIN_VALUE, Integer.MAX_VALUE}) {
            CHECK.noPlace("order of the block " + block, () -> house.order(0, block, true));
            CHECK.noPlace("parameter of the block " + block, () -> house.parameter(0, block, true));
            CHECK.noPlace("residual of the block " + block, () -> house.residual(0, block, true, 0));
            CHECK.noPlace("isStereo of the block " + block, () -> house.isStereo(block));
            CHECK.noPlace("pairBits of the block " + block, () -> house.pairBits(block));
            CHECK.noPlace("bitOf of the block " + block, () -> house.bitOf(block, -1));
        }
        for (int index : new int[] {-1, 32, Integer.MIN_VALUE, Integer.MAX_VALUE}) {
            CHECK.noPlace("residual at " + index, () -> house.residual(0, 0, false, index));
        }
        for (int index : new int[] {-1, 64, Integer.MIN_VALUE, Integer.MAX_VALUE}) {
            CHECK.noPlace("returned at " + index, () -> house.returned(0, index));
        }
        for (int index : new int[] {-1, 400, Integer.MIN_VALUE, Integer.MAX_VALUE}) {
            CHECK.noElement("bitOf at " + index, () -> house.bitOf(1, index));
        }
        CHECK.due("the last order", house.order(0, 1, false), 0);
        CHECK.due("the last residual", house.residual(1, 1, false, 31), 0);
        CHECK.due("the last one returned", house.returned(1, 63), 0);
        CHECK.due("the first one returned", house.returned(1, 0), 5);
    }
}
