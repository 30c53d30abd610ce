import java.lang.management.ManagementFactory;

/** The dearest calls make nothing on the heap, so that 512 of them fit into the room of a run. */
public final class RoomTest {
    private static final Check CHECK = new Check();

    public static void main(String[] args) {
        com.sun.management.ThreadMXBean beans = (com.sun.management.ThreadMXBean) ManagementFactory.getThreadMXBean();
        Maskingtone house = house();
        goOver(house);
        long thread = Thread.currentThread().getId();
        long before = beans.getThreadAllocatedBytes(thread);
        for (int i = 0; i < 10; i++) {
            goOver(house);
        }
        long made = beans.getThreadAllocatedBytes(thread) - before;
        CHECK.due("bytes made by ten rounds of all calls are few: " + made, made < 20000, true);
        before = beans.getThreadAllocatedBytes(thread);
        house = house();
        made = beans.getThreadAllocatedBytes(thread) - before;
        CHECK.due("bytes of an object are few: " + made, made < 200000, true);
        CHECK.due("it stands", house.blocks(), 8);
        CHECK.end();
    }

    private static Maskingtone house() {
        Maskingtone house = new Maskingtone();
        for (int i = 0; i < 4; i++) {
            house.shape(0, 'n', 16000, 3 + i, 64);
            house.shape(1, 'n', 9000, 9 + i, 64);
        }
        return house;
    }

    private static void goOver(Maskingtone house) {
        house.setLevels(4);
        house.setRate(100, 100);
        house.setNoise(true);
        house.allBits();
        house.returned(0, 255);
        house.add(1, 3, 20);
        house.limit(15000);
        house.code();
        house.lose(2);
        house.turn(3, 90);
        house.decoded(1, 200);
        house.error(0);
        house.preroll(4);
        house.sectionBitsAnew(5);
        house.repair(2);
        house.noiseAnew(4, 1, 2);
        house.arrive(3, 20);
        house.leastDelay();
        house.played(3, 4);
        house.lineAnew(0, 128);
        house.mask(0, 3, 2);
        house.loudness(0);
        house.truePeak(1);
        house.meanNoise();
        house.ratio();
        house.isSound();
    }
}
