/** Houses for tests, made of the samples or of the lines that they are to have. */
final class Build {
    private Build() {
    }

    static Maskingtone ofSamples(int[] left, int[] right) {
        Maskingtone house = new Maskingtone();
        put(house, 0, left);
        put(house, 1, right);
        return house;
    }

    private static void put(Maskingtone house, int channel, int[] values) {
        for (int from = 0; from < values.length; from += 64) {
            house.shape(channel, 'z', 0, 2, Math.min(64, values.length - from));
        }
        for (int i = 0; i < values.length; i++) {
            if (values[i] != 0) {
                house.setSample(channel, i, values[i]);
            }
        }
    }

    /** Both rows are as long as the blocks together; an empty one is a channel without samples. */
    static Maskingtone ofLines(int levels, int[] left, int[] right) {
        Maskingtone house = ofSamples(samplesOf(levels, left), samplesOf(levels, right));
        house.setLevels(levels);
        return house;
    }

    /** Nothing is quiet, so that small lines come back as they are. */
    static Maskingtone exact(int levels, int[] left, int[] right) {
        Maskingtone house = ofLines(levels, left, right);
        for (int band = 0; band < 5; band++) {
            house.setQuiet(band, 0);
        }
        return house;
    }

    private static int[] samplesOf(int levels, int[] lines) {
        long[] row = new long[lines.length];
        for (int i = 0; i < row.length; i++) {
            row[i] = lines[i];
        }
        row = Model.turnedBack(row, levels);
        int[] samples = new int[row.length];
        for (int i = 0; i < row.length; i++) {
            samples[i] = (int) row[i];
        }
        return samples;
    }

    /** A row of one block with the same amount at each of the places of a band. */
    static int[] band(int levels, int band, int amount) {
        int[] row = new int[32];
        addBand(row, levels, band, amount);
        return row;
    }

    static void addBand(int[] row, int levels, int band, int amount) {
        for (int i = 0; i < 32; i++) {
            if (bandOf(levels, i) == band) {
                row[i] = amount;
            }
        }
    }

    /** Lines of the band 0 at one level: each second place. */
    static int[] evenLines(int... amounts) {
        int[] lines = new int[32];
        for (int i = 0; i < amounts.length; i++) {
            lines[2 * i] = amounts[i];
        }
        return lines;
    }

    static int bandOf(int levels, int place) {
        return place == 0 ? 0 : Math.max(0, levels - Integer.numberOfTrailingZeros(place));
    }

    /** A row as long as so many blocks, with amounts from the beginning on. */
    static int[] row(int blocks, int... amounts) {
        return java.util.Arrays.copyOf(amounts, 32 * blocks);
    }

    static int[] all(int count, int amount) {
        int[] row = new int[count];
        java.util.Arrays.fill(row, amount);
        return row;
    }
}
