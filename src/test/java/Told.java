import java.util.function.Supplier;

/** Bits as texts of 0 and 1. */
final class Told {
    /** An object answers 512 calls; what is longer is asked of several that were made alike. */
    private static final int CALLS = 200;

    private Told() {
    }

    static String bits(Maskingtone house, int frame) {
        StringBuilder text = new StringBuilder();
        int count = house.frameBits(frame);
        for (int i = 0; i < count; i++) {
            text.append(house.frameBit(frame, i));
        }
        return text.toString();
    }

    static String bits(Supplier<Maskingtone> made, int frame) {
        StringBuilder text = new StringBuilder();
        Maskingtone house = made.get();
        int count = house.frameBits(frame);
        for (int i = 0; i < count; i++) {
            house = i % CALLS == CALLS - 1 ? made.get() : house;
            text.append(house.frameBit(frame, i));
        }
        return text.toString();
    }

    static String pairBits(Supplier<Maskingtone> made, int block) {
        StringBuilder text = new StringBuilder();
        Maskingtone house = made.get();
        int count = house.pairBits(block);
        for (int i = 0; i < count; i++) {
            house = i % CALLS == CALLS - 1 ? made.get() : house;
            text.append(house.bitOf(block, i));
        }
        return text.toString();
    }

    static String binary(long value, int width) {
        StringBuilder text = new StringBuilder();
        for (int i = width - 1; i >= 0; i--) {
            text.append((value >> i) & 1);
        }
        return text.toString();
    }

    /** The check of all bits ahead of it. */
    static String check(String bits) {
        long sum = 0;
        for (int i = 0; i < bits.length(); i++) {
            sum += bits.charAt(i) == '1' ? (i + 1) % 251 : 0;
        }
        return binary(sum % 256, 8);
    }

    /** Turns what is wrong in the check, so that the frame is read in spite of what was turned in it. */
    static void mend(Maskingtone house, int frame) {
        String bits = bits(house, frame);
        int end = bits.length() - 8;
        String due = check(bits.substring(0, end));
        for (int i = 0; i < 8; i++) {
            if (bits.charAt(end + i) != due.charAt(i)) {
                house.turn(frame, end + i);
            }
        }
    }
}
