/** The edges in the paragraph "Books", in the promises 23 to 25, and where frames are parted into sections. */
public final class BookEdgesTest {
    private static final Check CHECK = new Check();
    private static final int[] EMPTY = {};

    public static void main(String[] args) {
        testFirstLengths();
        testLengthRange();
        testToldApart();
        testCodes();
        testSymbols();
        testSeven();
        testFarAboveSeven();
        testEightBands();
        testLongestFirst();
        testLowerBook();
        testLongerAheadOfLower();
        testAndSoOn();
        testPlaces();
        CHECK.end();
    }

    private static void testFirstLengths() {
        Document.says(CHECK, "The books 0 to 2 have lengths of codes for 0 to 7, 1 to 8 each, at first 1, 2, 3, 4, 5, 6, 7, 7, then 3 for all, then 2, 2, 2, 4, 4, 4, 5, 5.");
        int[][] lengths = {{1, 2, 3, 4, 5, 6, 7, 7}, {3, 3, 3, 3, 3, 3, 3, 3}, {2, 2, 2, 4, 4, 4, 5, 5}};
        Maskingtone house = new Maskingtone();
        for (int book = 0; book < 3; book++) {
            for (int symbol = 0; symbol < 8; symbol++) {
                CHECK.due("length " + book + " " + symbol, house.lengthOf(book, symbol), lengths[book][symbol]);
            }
        }
        house.setLength(0, 0, 8);
        CHECK.due("of another object", new Maskingtone().lengthOf(0, 0), 1);
    }

    private static void testLengthRange() {
        Document.says(CHECK, "- `length`: the length, 1 to 8");
        Maskingtone house = new Maskingtone();
        for (int length : new int[] {0, 9, -1, 32, 33, Integer.MIN_VALUE, Integer.MAX_VALUE}) {
            CHECK.noArgument("a length of " + length, () -> house.setLength(0, 0, length));
        }
        CHECK.due("the greatest", house.setLength(0, 0, 8), 1);
        CHECK.due("as it is then", house.lengthOf(0, 0), 8);
        CHECK.due("the least", house.setLength(0, 0, 1), 8);
        CHECK.due("as it is then", house.lengthOf(0, 0), 1);
        CHECK.due("the same", house.setLength(0, 0, 1), 1);
        CHECK.due("the last symbol of the last book", house.setLength(2, 7, 8), 5);
        CHECK.due("as it is then", house.lengthOf(2, 7), 8);
        CHECK.due("the one ahead stays", house.lengthOf(2, 6), 5);
        CHECK.due("the other books stay", house.lengthOf(1, 7), 3);
    }

    private static void testToldApart() {
        Document.says(CHECK, "Throws `UnsupportedOperationException` if no such codes could be told apart: the sum of 256 shifted right by the lengths would be more than 256");
        Maskingtone house = new Maskingtone();
        for (int book = 0; book < 3; book++) {
            for (int symbol = 0; symbol < 8; symbol++) {
                int own = book;
                int each = symbol;
                int length = house.lengthOf(book, symbol);
                // each sum is just 256
                CHECK.due("as it is", house.setLength(book, symbol, length), length);
                if (length > 1) {
                    CHECK.noOperation("one shorter", () -> house.setLength(own, each, length - 1));
                    CHECK.noOperation("as short as can be", () -> house.setLength(own, each, 1));
                    CHECK.noArgument("no length", () -> house.setLength(own, each, 0));
                }
                CHECK.due("as it was", house.lengthOf(book, symbol), length);
            }
        }
        house.setLength(0, 7, 8);
        CHECK.noOperation("257", () -> house.setLength(0, 6, 6));
        CHECK.noOperation("257, as the length set is counted in place of that before", () -> house.setLength(0, 7, 6));
        CHECK.due("256 again", house.setLength(0, 7, 7), 8);
        for (int symbol = 0; symbol < 8; symbol++) {
            house.setLength(1, symbol, 8);
        }
        CHECK.due("128 and 7", house.setLength(1, 3, 1), 8);
        CHECK.due("192 and 6", house.setLength(1, 4, 2), 8);
        CHECK.due("224 and 5", house.setLength(1, 5, 3), 8);
        CHECK.due("252 and 4: 256", house.setLength(1, 6, 4), 8);
        CHECK.noOperation("264 and 3", () -> house.setLength(1, 7, 4));
        CHECK.due("248 and 3", house.setLength(1, 7, 5), 8);
        CHECK.noOperation("252 and 4 and 1 more", () -> house.setLength(1, 0, 5));
        CHECK.due("251 and 4", house.setLength(1, 0, 6), 8);
        CHECK.noOperation("252 and 5", () -> house.setLength(1, 1, 6));
    }

    private static void dueCodes(String what, Maskingtone house, int book, String... want) {
        for (int symbol = 0; symbol < 8; symbol++) {
            CHECK.due(what + ", length of " + symbol, house.lengthOf(book, symbol), want[symbol].length());
            CHECK.due(what + ", code of " + symbol, house.codeOf(book, symbol), Integer.parseInt(want[symbol], 2));
        }
    }

    private static Maskingtone with(int book, int... lengths) {
        Maskingtone house = new Maskingtone();
        for (int symbol = 0; symbol < 8; symbol++) {
            house.setLength(book, symbol, 8);
        }
        for (int symbol = 0; symbol < 8; symbol++) {
            house.setLength(book, symbol, lengths[symbol]);
        }
        return house;
    }

    private static void testCodes() {
        Document.says(CHECK, "Codes come by rising lengths, of one length by rising symbols: the first one is all 0, each next one is the one ahead plus 1, shifted left to its length.");
        dueCodes("8 for all", with(0, 8, 8, 8, 8, 8, 8, 8, 8), 0,
            "00000000", "00000001", "00000010", "00000011", "00000100", "00000101", "00000110", "00000111");
        dueCodes("the shortest at the end", with(1, 7, 7, 6, 5, 4, 3, 2, 1), 1, "1111110", "1111111", "111110", "11110", "1110", "110", "10", "0");
        dueCodes("a gap of seven", with(2, 8, 1, 8, 8, 8, 8, 8, 8), 2,
            "10000000", "0", "10000001", "10000010", "10000011", "10000100", "10000101", "10000110");
        dueCodes("two lengths by turns", with(1, 4, 3, 4, 3, 4, 3, 4, 3), 1, "1000", "000", "1001", "001", "1010", "010", "1011", "011");
        dueCodes("all 0 at four bits", with(0, 6, 4, 5, 4, 6, 8, 8, 7), 0,
            "001010", "0000", "00100", "0001", "001011", "00110010", "00110011", "0011000");
    }

    private static String bitsWith(int... amounts) {
        return Told.bits(() -> {
            Maskingtone house = Build.exact(1, Build.evenLines(amounts), EMPTY);
            house.code();
            return house;
        }, 0);
    }

    private static String framed(String steps, String sections) {
        String bits = "1010011100000000" + steps + sections;
        return bits + Told.check(bits);
    }

    private static void testSymbols() {
        Document.says(CHECK, "The number of a line, as of a residual, is told by the code of the lesser one of it and 7");
        String[] codes = {"0", "10", "110", "1110", "11110", "111110", "1111110"};
        for (int number = 1; number < 7; number++) {
            int amount = number % 2 == 0 ? number / 2 : -(number + 1) / 2;
            // the 1 behind it has the number 2, and lets no greater step stand
            String want = framed("00001" + "01111".repeat(3), "00" + "011" + codes[number] + "110" + "0".repeat(62));
            CHECK.due("the number " + number, bitsWith(amount, 1), want);
        }
    }

    private static void testSeven() {
        Document.says(CHECK, "and from 7 on by 18 bits more, for how much it is more than 7, the greatest first.");
        String zeros = "0".repeat(62);
        String steps = "00001" + "01111".repeat(3);
        CHECK.due("6, of 3", bitsWith(3, 1), framed(steps, "00011" + "1111110" + "110" + zeros));
        CHECK.due("7, of -4", bitsWith(-4, 1), framed(steps, "00011" + "1111111" + "000000000000000000" + "110" + zeros));
        CHECK.due("8, of 4", bitsWith(4, 1), framed(steps, "00011" + "1111111" + "000000000000000001" + "110" + zeros));
        CHECK.due("9, of -5", bitsWith(-5, 1), framed(steps, "00011" + "1111111" + "000000000000000010" + "110" + zeros));
        CHECK.due("250, of 125", bitsWith(125, 1), framed(steps, "00011" + "1111111" + "000000000011110011" + "110" + zeros));
        // they come back as they are
        for (int amount : new int[] {3, -4, 4, 125}) {
            Maskingtone house = Build.exact(1, Build.evenLines(amount, 1), EMPTY);
            house.code();
            CHECK.due("noise of " + amount, house.noise(0, 0, 0), 0);
            CHECK.due("noiseAnew of " + amount, house.noiseAnew(0, 0, 0), 0);
            CHECK.due("decoded of " + amount, house.decoded(0, 0), house.sample(0, 0));
        }
    }

    private static void testFarAboveSeven() {
        // 65535 by the step of 192 is 341, the number 682, 675 more than 7
        Maskingtone house = Build.ofSamples(Build.row(1), EMPTY);
        for (int i = 0; i < 32; i++) {
            house.setSample(0, i, i % 2 == 0 ? -32768 : 32767);
        }
        house.setLevels(1);
        house.code();
        CHECK.due("line", house.line(0, 1), 65535);
        CHECK.due("step", house.step(0, 0, 1), 15);
        CHECK.due("bookOf", house.bookOf(0, 0, 1), 1);
        CHECK.due("noise", house.noise(0, 0, 1), 63);
        String bits = Told.bits(house, 0);
        int first = bits.indexOf("111" + Told.binary(675, 18));
        CHECK.due("a code of it", first > 36, true);
        CHECK.due("sixteen of them", bits.startsWith(("111" + Told.binary(675, 18)).repeat(16), first), true);
    }

    private static void testEightBands() {
        Document.says(CHECK, "Bands in their order, those of the channel 0 first, are parted into sections of one book each, of at most 8 bands; a section takes 5 bits, 2 for its book and 3 for how many bands it has less 1, and its codes.");
        int[] sections = {0, 1, 1, 1, 2};
        for (int levels = 1; levels <= 4; levels++) {
            Maskingtone house = Build.exact(levels, new int[32], EMPTY);
            house.code();
            int rows = 2 * levels + 2;
            CHECK.due("sections of " + rows, house.sections(0), sections[levels]);
            CHECK.due("sectionBits of " + rows, house.sectionBits(0), 64 + 5 * sections[levels]);
            CHECK.due("sectionBitsAnew of " + rows, house.sectionBitsAnew(0), 64 + 5 * sections[levels]);
            String head = "00" + Told.binary(Math.min(8, rows) - 1, 3);
            CHECK.due("its five bits", Told.bits(house, 0).substring(16 + 5 * rows, 21 + 5 * rows), head);
        }
        // a section may have bands of both channels, or one band alone
        Maskingtone last = Build.exact(1, EMPTY, Build.band(1, 1, 5));
        last.code();
        CHECK.due("sections", last.sections(0), 2);
        CHECK.due("the first book", last.bookOf(0, 1, 0), 0);
        CHECK.due("the second book", last.bookOf(0, 1, 1), 1);
        String bits = Told.bits(last, 0);
        CHECK.due("three bands", bits.substring(36, 41), "00010");
        CHECK.due("one band", bits.substring(89, 94), "01000");
    }

    /** Of three levels: four lines in the band 0, at the places 0, 8, 16 and 24, and silence else. */
    private static Maskingtone four(int... amounts) {
        int[] lines = new int[32];
        for (int i = 0; i < 4; i++) {
            lines[8 * i] = amounts[i];
        }
        return Build.exact(3, lines, EMPTY);
    }

    private static void dueParting(String what, Maskingtone house, int sections, int bits, int... books) {
        house.code();
        CHECK.due(what + ", step", house.step(0, 0, 0), 1);
        CHECK.due(what + ", sections", house.sections(0), sections);
        CHECK.due(what + ", sectionBits", house.sectionBits(0), bits);
        CHECK.due(what + ", sectionBitsAnew", house.sectionBitsAnew(0), bits);
        for (int row = 0; row < books.length; row++) {
            CHECK.due(what + ", book of " + row, house.bookOf(0, row / 4, row % 4), books[row]);
        }
    }

    private static void testLongestFirst() {
        Document.says(CHECK, "The parting with the fewest bits is taken, of several that whose first section is the longest");
        // the numbers 6, 6, 1 and 0 take 17 bits by the book 0 and 12 by the book 1, which is worth 5 bits more
        dueParting("as many", four(3, 3, -1, 0), 1, 5 + 17 + 60, 0, 0, 0, 0, 0, 0, 0, 0);
        // the numbers 6, 6, 1 and 1 take 18 bits by the book 0
        dueParting("one fewer", four(3, 3, -1, -1), 2, 5 + 12 + 5 + 60, 1, 0, 0, 0, 0, 0, 0, 0);
        Maskingtone ten = Build.exact(4, new int[32], EMPTY);
        ten.code();
        CHECK.due("of eight and two, not of two and eight", Told.bits(ten, 0).substring(66, 71), "00111");
        CHECK.due("of eight and two, not of two and eight", Told.bits(ten, 0).substring(111, 116), "00001");
    }

    private static void testLowerBook() {
        Document.says(CHECK, "then that with the lower book, and so on.");
        dueBook("of three the lowest", zeros(3, 3, 3), 0);
        dueBook("of two the lower", zeros(4, 3, 3), 1);
        dueBook("of two the lower", zeros(4, 4, 3), 2);
        dueBook("of two the lower", zeros(3, 4, 3), 0);
        dueBook("fewer bits", zeros(3, 2, 2), 1);
        dueBook("fewest bits", zeros(3, 3, 2), 2);
    }

    /** Silence, of which each line takes so many bits by each of the books. */
    private static Maskingtone zeros(int... lengths) {
        Maskingtone house = new Maskingtone();
        house.shape(0, 'z', 0, 2, 32);
        for (int book = 0; book < 3; book++) {
            for (int symbol = 1; symbol < 8; symbol++) {
                house.setLength(book, symbol, 8);
            }
            house.setLength(book, 0, lengths[book]);
        }
        house.code();
        return house;
    }

    private static void dueBook(String what, Maskingtone house, int book) {
        for (int row = 0; row < 8; row++) {
            CHECK.due(what + ", bookOf", house.bookOf(0, row / 4, row % 4), book);
        }
        CHECK.due(what + ", its bits", Told.bits(house, 0).substring(56, 61), Told.binary(book, 2) + "111");
    }

    /** Zeros take 4 bits by the book 0, 3 by the book 1, 8 by the book 2, as all else by that. */
    private static Maskingtone byLength(int... amounts) {
        Maskingtone house = four(amounts);
        house.setLength(0, 0, 4);
        house.setLength(1, 1, 5);
        for (int symbol = 0; symbol < 8; symbol++) {
            house.setLength(2, symbol, 8);
        }
        return house;
    }

    private static void testLongerAheadOfLower() {
        // the numbers 1, 1, 3 and 2 take 11 bits by the book 0, 16 by the book 1
        dueParting("as many", byLength(-1, -1, -2, 1), 1, 5 + 16 + 180, 1, 1, 1, 1, 1, 1, 1, 1);
        // the numbers 1, 1, 2 and 2 take 10 bits by the book 0
        dueParting("one fewer", byLength(-1, -1, 1, 1), 2, 5 + 10 + 5 + 180, 0, 1, 1, 1, 1, 1, 1, 1);
    }

    private static void testAndSoOn() {
        // the second section of ten bands by the lower one of two books, too
        Maskingtone house = Build.exact(4, new int[32], EMPTY);
        house.setLength(0, 0, 8);
        house.setLength(2, 0, 3);
        house.code();
        for (int row = 0; row < 10; row++) {
            CHECK.due("book of " + row, house.bookOf(0, row / 5, row % 5), 1);
        }
        CHECK.due("the second section", Told.bits(house, 0).substring(71 + 120, 71 + 125), "01001");
        // the last band, with 53 bits by the book 0 and 48 by the book 1, stays with the one ahead of it
        dueTen("as many", tenth(3, 3, -1, 0), 2, 0);
        // with 54 bits by the book 0 it does not
        dueTen("one fewer", tenth(3, 3, -1, -1), 3, 1);
    }

    /** Of four levels: the lines of the last band of the channel 1, which are 1 but for the first ones. */
    private static Maskingtone tenth(int... amounts) {
        int[] lines = Build.band(4, 4, 1);
        for (int i = 0; i < amounts.length; i++) {
            lines[2 * i + 1] = amounts[i];
        }
        Maskingtone house = Build.exact(4, EMPTY, lines);
        for (int symbol = 0; symbol < 8; symbol++) {
            house.setLength(2, symbol, 8);
        }
        return house;
    }

    private static void dueTen(String what, Maskingtone house, int sections, int book) {
        house.code();
        CHECK.due(what + ", sections", house.sections(0), sections);
        CHECK.due(what + ", sectionBits", house.sectionBits(0), 111);
        CHECK.due(what + ", sectionBitsAnew", house.sectionBitsAnew(0), 111);
        CHECK.due(what + ", the last band", house.bookOf(0, 1, 4), book);
        CHECK.due(what + ", the one ahead of it", house.bookOf(0, 1, 3), 0);
    }

    private static void testPlaces() {
        Maskingtone house = new Maskingtone();
        for (int book : new int[] {-1, 3, Integer.MIN_VALUE, Integer.MAX_VALUE}) {
            CHECK.noPlace("setLength of the book " + book, () -> house.setLength(book, 0, 1));
            CHECK.noPlace("no book, no symbol, no length", () -> house.setLength(book, 8, 9));
            CHECK.noPlace("codeOf of the book " + book, () -> house.codeOf(book, 0));
            CHECK.noPlace("no book, no symbol", () -> house.codeOf(book, 8));
            CHECK.noPlace("lengthOf of the book " + book, () -> house.lengthOf(book, 0));
            CHECK.noPlace("no book, no symbol", () -> house.lengthOf(book, -1));
        }
        for (int symbol : new int[] {-1, 8, Integer.MIN_VALUE, Integer.MAX_VALUE}) {
            CHECK.noArgument("setLength of the symbol " + symbol, () -> house.setLength(1, symbol, 1));
            CHECK.noArgument("codeOf of the symbol " + symbol, () -> house.codeOf(2, symbol));
            CHECK.noArgument("lengthOf of the symbol " + symbol, () -> house.lengthOf(2, symbol));
        }
        CHECK.due("the last code", house.codeOf(2, 7), 31);
        CHECK.due("the first code", house.codeOf(0, 0), 0);
    }
}
