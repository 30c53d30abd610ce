/** Promises 57 to 59: ratio, meanNoise, isSound. */
public final class FiguresTest {
    private static final Check CHECK = new Check();

    public static void main(String[] args) {
        testRatio();
        testMeanNoise();
        testSound();
        CHECK.end();
    }

    private static void testRatio() {
        Maskingtone house = new Maskingtone();
        CHECK.throwing("ratio of none", ArithmeticException.class, () -> house.ratio());
        house.shape(0, 'z', 0, 2, 1);
        CHECK.due("ratio of silence", house.ratio(), 77f / 1024f);
        house.shape(1, 'n', 16000, 7, 64);
        CHECK.due("ratio", house.ratio(), (float) house.allBits() / 2048f);
        house.shape(1, 'n', 16000, 7, 32);
        CHECK.due("ratio of three", house.ratio(), (float) house.allBits() / 3072f);
        house.clear();
        CHECK.throwing("ratio of none", ArithmeticException.class, () -> house.ratio());
    }

    private static void testMeanNoise() {
        Maskingtone house = new Maskingtone();
        CHECK.throwing("meanNoise of none", ArithmeticException.class, () -> house.meanNoise());
        house.shape(0, 'n', 9000, 3, 64);
        house.shape(0, 'q', 900, 3, 32);
        CHECK.throwing("meanNoise of nothing coded", ArithmeticException.class, () -> house.meanNoise());
        for (int levels = 1; levels <= 4; levels++) {
            house.setLevels(levels);
            house.setNoise(levels > 2);
            house.code();
            long sum = 0;
            for (int frame = 0; frame < 3; frame++) {
                for (int band = 0; band <= levels; band++) {
                    sum += house.noise(frame, 0, band) + house.noise(frame, 1, band);
                }
            }
            CHECK.due("meanNoise", house.meanNoise(), (double) sum / (double) (3 * 2 * (levels + 1)));
            CHECK.due("there is some", sum > 0, true);
        }
        house.lose(0);
        CHECK.due("meanNoise stays", house.meanNoise() > 0, true);
        house.setNoise(true);
        CHECK.throwing("meanNoise of what was taken away", ArithmeticException.class, () -> house.meanNoise());
    }

    private static void testSound() {
        Maskingtone house = new Maskingtone();
        CHECK.due("isSound of none", house.isSound(), true);
        for (int i = 0; i < 4; i++) {
            house.shape(0, 'n', 16000, 3 + i, 64);
            house.shape(1, "qtin".charAt(i), 16000, 5 + i, 64);
        }
        CHECK.due("isSound of what is not coded", house.isSound(), true);
        for (int levels = 1; levels <= 4; levels++) {
            for (int rate = 100; rate <= 4000; rate += 1300) {
                house.setLevels(levels);
                house.setRate(rate, rate);
                house.setNoise(levels % 2 == 0);
                house.code();
                CHECK.due("isSound", house.isSound(), true);
            }
        }
        house.lose(2);
        house.turn(3, 100);
        CHECK.due("isSound of what was sent", house.isSound(), true);
    }
}
