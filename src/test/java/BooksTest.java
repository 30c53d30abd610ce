/** Promises 23 to 25: setLength, codeOf, lengthOf. */
public final class BooksTest {
    private static final Check CHECK = new Check();

    public static void main(String[] args) {
        testFirst();
        testSet();
        testWrong();
        CHECK.end();
    }

    private static void dueBook(Maskingtone house, int book, int[] lengths, int... codes) {
        for (int i = 0; i < 8; i++) {
            CHECK.due("lengthOf " + book + " " + i, house.lengthOf(book, i), lengths[i]);
            CHECK.due("codeOf " + book + " " + i, house.codeOf(book, i), codes[i]);
        }
    }

    private static void testFirst() {
        Maskingtone house = new Maskingtone();
        dueBook(house, 0, new int[] {1, 2, 3, 4, 5, 6, 7, 7}, 0, 0b10, 0b110, 0b1110, 0b11110, 0b111110, 0b1111110, 0b1111111);
        dueBook(house, 1, new int[] {3, 3, 3, 3, 3, 3, 3, 3}, 0, 1, 2, 3, 4, 5, 6, 7);
        dueBook(house, 2, new int[] {2, 2, 2, 4, 4, 4, 5, 5}, 0, 1, 2, 0b1100, 0b1101, 0b1110, 0b11110, 0b11111);
    }

    private static void testSet() {
        Maskingtone house = new Maskingtone();
        CHECK.noOperation("too short", () -> house.setLength(1, 0, 2));
        CHECK.noOperation("too short", () -> house.setLength(0, 7, 6));
        CHECK.due("unchanged", house.lengthOf(0, 7), 7);
        CHECK.due("longer", house.setLength(0, 7, 8), 7);
        CHECK.noOperation("a sum of 257", () -> house.setLength(0, 6, 6));
        CHECK.due("as before", house.setLength(0, 7, 7), 8);
        CHECK.due("the same", house.setLength(0, 7, 7), 7);
        CHECK.due("longer", house.setLength(0, 0, 8), 1);
        dueBook(house, 0, new int[] {8, 2, 3, 4, 5, 6, 7, 7}, 0b10000000, 0, 0b010, 0b0110, 0b01110, 0b011110, 0b0111110, 0b0111111);
        CHECK.due("shorter", house.setLength(0, 3, 1), 4);
        // 3: 0, 1: 10, 2: 110, 4: 11100 .. 11111000
        dueBook(house, 0, new int[] {8, 2, 3, 1, 5, 6, 7, 7}, 0b11110000, 0b10, 0b110, 0, 0b11100, 0b111010, 0b1110110, 0b1110111);
        CHECK.due("all of 8", house.setLength(1, 0, 8), 3);
        for (int i = 1; i < 8; i++) {
            house.setLength(1, i, 8);
        }
        dueBook(house, 1, new int[] {8, 8, 8, 8, 8, 8, 8, 8}, 0, 1, 2, 3, 4, 5, 6, 7);
        CHECK.due("one of 1", house.setLength(1, 4, 1), 8);
        CHECK.due("its code", house.codeOf(1, 4), 0);
        CHECK.due("the next code", house.codeOf(1, 0), 0b10000000);
        CHECK.due("the last code", house.codeOf(1, 7), 0b10000110);
        CHECK.noOperation("a sum of 262", () -> house.setLength(1, 5, 1));
        for (int i : new int[] {0, 1, 2, 3, 6}) {
            house.setLength(1, i, 8);
        }
        CHECK.due("the book 2 is as it was", house.codeOf(2, 3), 0b1100);
    }

    private static void testWrong() {
        Maskingtone house = new Maskingtone();
        for (int book : new int[] {-1, 3}) {
            CHECK.noPlace("setLength of " + book, () -> house.setLength(book, 8, 0));
            CHECK.noPlace("codeOf of " + book, () -> house.codeOf(book, 8));
            CHECK.noPlace("lengthOf of " + book, () -> house.lengthOf(book, -1));
        }
        for (int symbol : new int[] {-1, 8}) {
            CHECK.noArgument("setLength of " + symbol, () -> house.setLength(0, symbol, 8));
            CHECK.noArgument("codeOf of " + symbol, () -> house.codeOf(0, symbol));
            CHECK.noArgument("lengthOf of " + symbol, () -> house.lengthOf(0, symbol));
        }
        CHECK.noArgument("length 0", () -> house.setLength(0, 0, 0));
        CHECK.noArgument("length 9", () -> house.setLength(0, 0, 9));
        CHECK.noArgument("length -1", () -> house.setLength(1, 0, -1));
    }
}
