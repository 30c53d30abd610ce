import java.lang.management.ManagementFactory;

/** Whatever is called for 512 times, it makes far less than there is room for in a run. */
public final class RoomTest {
    private static final Check CHECK = new Check();
    private static final int CALLS = 480;
    /** A tenth of 7.3 million elements, of four bytes each. */
    private static final long MOST_BYTES = 2_900_000;

    private interface Doing {
        Object on(Maskingtone house, int count);
    }

    private static final Doing[] DEAREST = {
        (house, count) -> house.code(),
        (house, count) -> house.isSound(),
        (house, count) -> count % 3 == 0 ? house.setNoise(count % 2 == 0) : count % 3 == 1 ? (Object) house.code() : (Object) house.isSound(),
        (house, count) -> count % 2 == 0 ? house.setSample(0, count % 256, count) : house.allBits(),
        (house, count) -> count % 2 == 0 ? house.setLevels(1 + count % 4) : house.line(1, 255),
        (house, count) -> count % 2 == 0 ? house.add(0, 1, 50) : house.returned(1, 255),
        (house, count) -> count % 2 == 0 ? house.limit(9000 - count) : house.ratio(),
        (house, count) -> count % 2 == 0 ? house.turn(count % 8, 30 + count) : house.decoded(1, 255),
        (house, count) -> count % 2 == 0 ? house.lose(count % 8) : house.repair(3),
        (house, count) -> house.preroll(count % 8),
        (house, count) -> house.error(count % 2),
        (house, count) -> house.noiseAnew(count % 8, count % 2, count % 5),
        (house, count) -> house.sectionBitsAnew(count % 8),
        (house, count) -> house.lineAnew(0, count % 256),
        (house, count) -> house.mask(count % 2, count % 8, count % 5),
        (house, count) -> house.loudness(0),
        (house, count) -> house.truePeak(1),
        (house, count) -> house.meanNoise(),
        (house, count) -> count % 16 < 8 ? house.keep(0, 256) : house.edited(0, count),
        (house, count) -> count % 16 == 0 ? house.dropEdits() : count % 16 < 8 ? house.keep(count % 16, 256) : house.edited(1, 100),
        (house, count) -> count % 8 == 0 ? house.clear() : house.shape(0, 'n', 16000, 64, 32),
        (house, count) -> house.setLength(count % 3, 7, 7 + count / 3 % 2)};

    public static void main(String[] args) {
        com.sun.management.ThreadMXBean beans = (com.sun.management.ThreadMXBean) ManagementFactory.getThreadMXBean();
        long thread = Thread.currentThread().getId();
        for (int i = 0; i < DEAREST.length; i++) {
            // the first round is for what the machine makes of its own
            run(house(), DEAREST[i], 20);
            long before = beans.getThreadAllocatedBytes(thread);
            run(house(), DEAREST[i], CALLS);
            long made = beans.getThreadAllocatedBytes(thread) - before;
            CHECK.due("the call " + i + " makes few bytes: " + made, made < MOST_BYTES, true);
        }
        CHECK.end();
    }

    private static void run(Maskingtone house, Doing doing, int calls) {
        for (int count = 0; count < calls; count++) {
            try {
                doing.on(house, count);
            } catch (RuntimeException e) {
                continue;
            }
        }
    }

    private static Maskingtone house() {
        Maskingtone house = new Maskingtone();
        for (int i = 0; i < 4; i++) {
            house.shape(0, 'n', 16000, 3 + i, 64);
            house.shape(1, 'n', 9000, 9 + i, 64);
        }
        house.setLevels(4);
        house.setRate(150, 100);
        house.setNoise(true);
        house.code();
        return house;
    }
}
