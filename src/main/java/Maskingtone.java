import java.util.NoSuchElementException;

/** A house of sound: see README.md and the document for what each call promises. */
public final class Maskingtone {
    private static final int BLOCK = 32;
    private static final int MOST_SAMPLES = 256;
    private static final int MOST_BLOCKS = 8;
    private static final int LEAST_SAMPLE = -32768;
    private static final int GREATEST_SAMPLE = 32767;
    private static final int MOST_LEVELS = 4;
    private static final int MOST_BANDS = 5;
    /** A row is a band of one channel; those of the channel 0 come first. */
    private static final int MOST_ROWS = 10;
    private static final int MOST_EDITS = 8;
    private static final int BOOKS = 3;
    private static final int SYMBOLS = 8;
    private static final int LAST_SYMBOL = 7;
    private static final int EXTRA_BITS = 18;
    private static final int MOST_LENGTH = 8;
    private static final int LAST_STEP = 15;
    /** Stands in place of a step number where a band is told as noise. */
    private static final int NOISE = -1;
    private static final int MOST_TOLD = 32767;
    private static final int SIGN = 167;
    private static final int SECTION_HEAD = 5;
    private static final int MOST_SECTION = 8;
    private static final int PLAYING = 10;
    private static final int NEVER = -1;
    private static final char WHOLE = ' ';
    private static final char LOST = 'l';

    private final Channel[] channels = new Channel[2];
    private final Pair[] pairs = new Pair[MOST_BLOCKS];
    private final Frame[] allFrames = new Frame[MOST_BLOCKS];
    private final Settings settings = new Settings();
    private final Coder coder = new Coder(settings);
    private final Receiver receiver = new Receiver(settings);
    private final int[] editFrom = new int[MOST_EDITS];
    private final int[] editTo = new int[MOST_EDITS];
    private int editCount;
    private int codedCount;
    private boolean hasLines;

    public Maskingtone() {
        for (int i = 0; i < channels.length; i++) {
            channels[i] = new Channel();
        }
        for (int i = 0; i < MOST_BLOCKS; i++) {
            pairs[i] = new Pair();
            allFrames[i] = new Frame(i);
        }
    }

    // ---- samples

    public int shape(int channel, char shape, int amplitude, int period, int count) throws IndexOutOfBoundsException, IllegalArgumentException, IllegalStateException {
        needChannel(channel);
        need(isShape(shape) && isWithin(amplitude, 0, 16000));
        need(isWithin(period, 2, 64) && isWithin(count, 1, 64));
        Channel own = channels[channel];
        if (own.count + count > MOST_SAMPLES) {
            throw new IllegalStateException("more than 256 samples");
        }
        own.putShape(shape, amplitude, period, count);
        forget();
        return own.count;
    }

    public int add(int channel, int shift, int percent) throws IndexOutOfBoundsException, IllegalArgumentException {
        needChannel(channel);
        need(isWithin(shift, 0, 64) && isWithin(percent, -100, 100));
        int changed = channels[channel].mix(channels[1 - channel], shift, percent);
        forget();
        return changed;
    }

    public int setSample(int channel, int index, int value) throws IndexOutOfBoundsException, IllegalArgumentException {
        needChannel(channel);
        Channel own = channels[channel];
        needPlace(index, own.count);
        need(isWithin(value, LEAST_SAMPLE, GREATEST_SAMPLE));
        int before = own.samples[index];
        own.samples[index] = value;
        forget();
        return before;
    }

    public int clear() {
        int taken = channels[0].count + channels[1].count;
        channels[0].empty();
        channels[1].empty();
        editCount = 0;
        forget();
        return taken;
    }

    public int samples(int channel) throws IndexOutOfBoundsException {
        needChannel(channel);
        return channels[channel].count;
    }

    public int sample(int channel, int index) throws IndexOutOfBoundsException {
        needChannel(channel);
        needPlace(index, length());
        return channels[channel].samples[index];
    }

    public int blocks() {
        int longer = Math.max(channels[0].count, channels[1].count);
        return (longer + BLOCK - 1) / BLOCK;
    }

    // ---- without loss

    public int order(int channel, int block, boolean isSide) throws IndexOutOfBoundsException {
        needChannel(channel);
        needPlace(block, blocks());
        return toldOf(channel, block, isSide).order;
    }

    public int parameter(int channel, int block, boolean isSide) throws IndexOutOfBoundsException {
        needChannel(channel);
        needPlace(block, blocks());
        return toldOf(channel, block, isSide).parameter;
    }

    public int residual(int channel, int block, boolean isSide, int index) throws IndexOutOfBoundsException {
        needChannel(channel);
        needPlace(block, blocks());
        needPlace(index, BLOCK);
        return toldOf(channel, block, isSide).residuals[index];
    }

    public boolean isStereo(int block) throws IndexOutOfBoundsException {
        needPlace(block, blocks());
        return pairAt(block).isSided;
    }

    public int pairBits(int block) throws IndexOutOfBoundsException {
        needPlace(block, blocks());
        return pairAt(block).bits.length;
    }

    public int allBits() {
        int sum = 0;
        int blocks = blocks();
        for (int block = 0; block < blocks && block < pairs.length; block++) {
            sum += pairAt(block).bits.length;
        }
        return sum;
    }

    public int bitOf(int block, int index) throws IndexOutOfBoundsException, NoSuchElementException {
        needPlace(block, blocks());
        Bits bits = pairAt(block).bits;
        needBit(bits, index);
        return bits.at(index);
    }

    public int returned(int channel, int index) throws IndexOutOfBoundsException {
        needChannel(channel);
        needPlace(index, length());
        return pairAt(index / BLOCK).backOf(channel)[index % BLOCK];
    }

    // ---- lines and masks

    public int setLevels(int levels) throws IllegalArgumentException {
        need(isWithin(levels, 1, MOST_LEVELS));
        int before = settings.levels;
        settings.takeLevels(levels);
        forget();
        return before;
    }

    public int line(int channel, int index) throws IndexOutOfBoundsException {
        needChannel(channel);
        needPlace(index, length());
        return linesOf(channel)[index];
    }

    public int lineAnew(int channel, int index) throws IndexOutOfBoundsException {
        needChannel(channel);
        needPlace(index, length());
        return Lifting.anew(channels[channel].samples, length(), settings.levels, index);
    }

    public int strength(int channel, int block, int band) throws IndexOutOfBoundsException, IllegalArgumentException {
        needChannel(channel);
        needPlace(block, blocks());
        needBand(band);
        return settings.strengthOf(linesOf(channel), block * BLOCK, band);
    }

    public int mask(int channel, int block, int band) throws IndexOutOfBoundsException, IllegalArgumentException {
        needChannel(channel);
        needPlace(block, blocks());
        needBand(band);
        return settings.maskOf(linesOf(channel), block, band);
    }

    public int setQuiet(int band, int quiet) throws IllegalArgumentException {
        need(isWithin(band, 0, MOST_BANDS - 1) && isWithin(quiet, 0, 1000));
        int before = settings.quiet[band];
        settings.quiet[band] = quiet;
        forget();
        return before;
    }

    // ---- books

    public int setLength(int book, int symbol, int length) throws IndexOutOfBoundsException, IllegalArgumentException, UnsupportedOperationException {
        needPlace(book, BOOKS);
        need(isWithin(symbol, 0, LAST_SYMBOL) && isWithin(length, 1, MOST_LENGTH));
        Book own = settings.books[book];
        if (!own.canTell(symbol, length)) {
            throw new UnsupportedOperationException("codes could not be told apart");
        }
        int before = own.lengths[symbol];
        own.lengths[symbol] = length;
        own.giveCodes();
        forget();
        return before;
    }

    public int codeOf(int book, int symbol) throws IndexOutOfBoundsException, IllegalArgumentException {
        needPlace(book, BOOKS);
        need(isWithin(symbol, 0, LAST_SYMBOL));
        return settings.books[book].codes[symbol];
    }

    public int lengthOf(int book, int symbol) throws IndexOutOfBoundsException, IllegalArgumentException {
        needPlace(book, BOOKS);
        need(isWithin(symbol, 0, LAST_SYMBOL));
        return settings.books[book].lengths[symbol];
    }

    // ---- coding

    public int setRate(int rate, int room) throws IllegalArgumentException {
        need(isWithin(rate, 100, 4000) && isWithin(room, 0, 8000));
        int before = settings.rate;
        settings.rate = rate;
        settings.room = room;
        forget();
        return before;
    }

    public boolean setNoise(boolean may) {
        boolean before = settings.mayNoise;
        settings.mayNoise = may;
        forget();
        return before;
    }

    public int code() throws NoSuchElementException {
        int blocks = blocks();
        if (blocks == 0) {
            throw new NoSuchElementException("no samples");
        }
        int sum = 0;
        int saved = 0;
        for (int i = 0; i < blocks && i < allFrames.length; i++) {
            allFrames[i].takeLines(linesOf(0), linesOf(1));
            coder.tell(allFrames[i], linesOf(0), linesOf(1), saved);
            saved = allFrames[i].saved;
            sum += allFrames[i].sent.length;
        }
        codedCount = blocks;
        receiver.isFresh = false;
        return sum;
    }

    public int frames() {
        return codedCount;
    }

    public int frameBits(int frame) throws IndexOutOfBoundsException {
        needPlace(frame, codedCount);
        return allFrames[frame].bits.length;
    }

    public int frameBit(int frame, int index) throws IndexOutOfBoundsException, NoSuchElementException {
        needPlace(frame, codedCount);
        needBit(allFrames[frame].bits, index);
        return allFrames[frame].bits.at(index);
    }

    public int step(int frame, int channel, int band) throws IndexOutOfBoundsException, IllegalArgumentException {
        needPlace(frame, codedCount);
        needChannel(channel);
        needBand(band);
        return allFrames[frame].steps[settings.rowOf(channel, band)];
    }

    public int noise(int frame, int channel, int band) throws IndexOutOfBoundsException, IllegalArgumentException {
        needPlace(frame, codedCount);
        needChannel(channel);
        needBand(band);
        return allFrames[frame].noises[settings.rowOf(channel, band)];
    }

    public int noiseAnew(int frame, int channel, int band) throws IndexOutOfBoundsException, IllegalArgumentException, UnsupportedOperationException {
        needPlace(frame, codedCount);
        needChannel(channel);
        needBand(band);
        if (receiver.read(allFrames[frame]) != WHOLE) {
            throw new UnsupportedOperationException("the frame is not there, or not whole");
        }
        return settings.noiseOf(allFrames[frame].lines, receiver.made, channel * BLOCK, band);
    }

    public int sections(int frame) throws IndexOutOfBoundsException {
        needPlace(frame, codedCount);
        return allFrames[frame].parting.count;
    }

    public int bookOf(int frame, int channel, int band) throws IndexOutOfBoundsException, IllegalArgumentException {
        needPlace(frame, codedCount);
        needChannel(channel);
        needBand(band);
        return allFrames[frame].parting.books[settings.rowOf(channel, band)];
    }

    public int sectionBits(int frame) throws IndexOutOfBoundsException {
        needPlace(frame, codedCount);
        return allFrames[frame].parting.bits();
    }

    public int sectionBitsAnew(int frame) throws IndexOutOfBoundsException {
        needPlace(frame, codedCount);
        return allFrames[frame].parting.bitsAnew();
    }

    public int reservoir(int frame) throws IndexOutOfBoundsException {
        needPlace(frame, codedCount);
        return allFrames[frame].saved;
    }

    // ---- losses and coming back

    public boolean lose(int frame) throws IndexOutOfBoundsException {
        needPlace(frame, codedCount);
        boolean wasThere = !allFrames[frame].isLost;
        allFrames[frame].isLost = true;
        receiver.isFresh = false;
        return wasThere;
    }

    public int turn(int frame, int index) throws IndexOutOfBoundsException, NoSuchElementException, UnsupportedOperationException {
        needPlace(frame, codedCount);
        needBit(allFrames[frame].bits, index);
        if (allFrames[frame].isLost) {
            throw new UnsupportedOperationException("the frame is lost");
        }
        allFrames[frame].bits.turnOver(index);
        receiver.isFresh = false;
        return allFrames[frame].bits.at(index);
    }

    public int repair(int frame) throws IndexOutOfBoundsException {
        needPlace(frame, codedCount);
        allFrames[frame].sendAgain();
        receiver.isFresh = false;
        int faulty = 0;
        for (int i = 0; i < codedCount && i < allFrames.length; i++) {
            if (receiver.read(allFrames[i]) != WHOLE) {
                faulty++;
            }
        }
        return faulty;
    }

    public char fault(int frame, int depth) throws IndexOutOfBoundsException, NoSuchElementException {
        needPlace(frame, codedCount);
        char cause = receiver.read(allFrames[frame]);
        if (cause == WHOLE || !isWithin(depth, 0, 1)) {
            throw new NoSuchElementException("nothing is wrong so deep");
        }
        return depth == 0 ? 'f' : cause;
    }

    public int decoded(int channel, int index) throws NoSuchElementException, IndexOutOfBoundsException {
        needCoded();
        needChannel(channel);
        needPlace(index, length());
        receiver.comeBack(allFrames, codedCount);
        return receiver.back[channel][index];
    }

    public int preroll(int frame) throws IndexOutOfBoundsException {
        needPlace(frame, codedCount);
        receiver.comeWithout(allFrames, codedCount, 0, receiver.whole);
        receiver.comeWithout(allFrames, codedCount, frame, receiver.late);
        for (int i = codedCount - 1; i >= frame; i--) {
            if (receiver.isOtherwise(i)) {
                return i - frame + 1;
            }
        }
        return 0;
    }

    public long error(int channel) throws NoSuchElementException, IndexOutOfBoundsException {
        needCoded();
        needChannel(channel);
        receiver.comeBack(allFrames, codedCount);
        int[] back = receiver.back[channel];
        int[] own = channels[channel].samples;
        long sum = 0;
        for (int i = 0; i < back.length && i < own.length; i++) {
            sum += Math.abs(back[i] - own[i]);
        }
        return sum;
    }

    // ---- late ones and edits

    public int arrive(int frame, int time) throws IndexOutOfBoundsException, IllegalArgumentException {
        needPlace(frame, codedCount);
        need(isWithin(time, 0, 1000));
        allFrames[frame].arrival = time;
        int arrived = 0;
        for (int i = 0; i < codedCount && i < allFrames.length; i++) {
            if (allFrames[i].arrival != NEVER) {
                arrived++;
            }
        }
        return arrived;
    }

    public int played(int delay, int time) throws IllegalArgumentException {
        need(isWithin(delay, 0, 100) && isWithin(time, 0, 2000));
        if (time < delay) {
            return -1;
        }
        int due = (time - delay) / PLAYING;
        if (due >= codedCount || due >= allFrames.length) {
            return -1;
        }
        int arrival = allFrames[due].arrival;
        return arrival == NEVER || arrival > PLAYING * due + delay ? -2 : due;
    }

    public int leastDelay() throws NoSuchElementException {
        int least = -1;
        for (int i = 0; i < codedCount && i < allFrames.length; i++) {
            if (allFrames[i].arrival != NEVER) {
                least = Math.max(least, Math.max(0, allFrames[i].arrival - PLAYING * i));
            }
        }
        if (least < 0) {
            throw new NoSuchElementException("none has arrived");
        }
        return least;
    }

    public int keep(int from, int to) throws IllegalArgumentException, IllegalStateException {
        need(from >= 0 && from < to && to <= length());
        if (editCount >= MOST_EDITS) {
            throw new IllegalStateException("there are 8 edits");
        }
        editFrom[editCount] = from;
        editTo[editCount] = to;
        editCount++;
        int sum = 0;
        for (int i = 0; i < editCount && i < MOST_EDITS; i++) {
            sum += editTo[i] - editFrom[i];
        }
        return sum;
    }

    public int dropEdits() {
        int dropped = editCount;
        editCount = 0;
        return dropped;
    }

    public int edited(int channel, int index) throws IndexOutOfBoundsException, NoSuchElementException {
        needChannel(channel);
        int place = editedPlace(index);
        if (place < 0) {
            throw new NoSuchElementException("the edits have no such sample");
        }
        return at(channels[channel].samples, place);
    }

    // ---- loudness

    public int peak(int channel) throws IndexOutOfBoundsException {
        needChannel(channel);
        return channels[channel].greatest(0, MOST_SAMPLES);
    }

    public int truePeak(int channel) throws IndexOutOfBoundsException {
        needChannel(channel);
        return Math.max(channels[channel].greatest(0, MOST_SAMPLES), channels[channel].greatestBetween(length()));
    }

    public long loudness(int channel) throws IndexOutOfBoundsException {
        needChannel(channel);
        return channels[channel].loudnessOf(blocks());
    }

    public int limit(int level) throws IllegalArgumentException {
        need(isWithin(level, 1, GREATEST_SAMPLE));
        int smaller = channels[0].limitTo(level) + channels[1].limitTo(level);
        forget();
        return smaller;
    }

    // ---- figures

    public float ratio() throws ArithmeticException {
        int blocks = blocks();
        if (blocks == 0) {
            throw new ArithmeticException("no samples");
        }
        return (float) allBits() / (float) (16 * 2 * BLOCK * blocks);
    }

    public double meanNoise() throws ArithmeticException {
        int rows = settings.rows();
        int count = codedCount * rows;
        if (count == 0) {
            throw new ArithmeticException("nothing was coded");
        }
        long sum = 0;
        for (int i = 0; i < codedCount && i < allFrames.length; i++) {
            for (int row = 0; row < rows && row < MOST_ROWS; row++) {
                sum += allFrames[i].noises[row];
            }
        }
        return (double) sum / (double) count;
    }

    public boolean isSound() {
        return areReturned() && areLinesAnew() && areFramesSound();
    }

    // ---- what is looked at first

    private static boolean isWithin(int value, int least, int greatest) {
        return value >= least && value <= greatest;
    }

    private static boolean isShape(char shape) {
        return shape == 'q' || shape == 't' || shape == 'i' || shape == 'z' || shape == 'n';
    }

    private static void need(boolean isSo) throws IllegalArgumentException {
        if (!isSo) {
            throw new IllegalArgumentException("out of range");
        }
    }

    private static void needPlace(int index, int count) throws IndexOutOfBoundsException {
        if (index < 0 || index >= count) {
            throw new IndexOutOfBoundsException("no such place");
        }
    }

    private static void needChannel(int channel) throws IndexOutOfBoundsException {
        if (channel != 0 && channel != 1) {
            throw new IndexOutOfBoundsException("no such channel");
        }
    }

    private void needBand(int band) throws IllegalArgumentException {
        need(isWithin(band, 0, settings.levels));
    }

    private static void needBit(Bits bits, int index) throws NoSuchElementException {
        if (index < 0 || index >= bits.length) {
            throw new NoSuchElementException("no such bit");
        }
    }

    private void needCoded() throws NoSuchElementException {
        if (codedCount == 0) {
            throw new NoSuchElementException("nothing was coded");
        }
    }

    // ---- what is kept from call to call

    /** All that was made of samples and settings is stale as soon as one of them may be another. */
    private void forget() {
        hasLines = false;
        codedCount = 0;
        for (int i = 0; i < MOST_BLOCKS; i++) {
            pairs[i].isFresh = false;
            allFrames[i].arrival = NEVER;
        }
    }

    private int length() {
        return BLOCK * blocks();
    }

    private Pair pairAt(int block) {
        Pair pair = pairs[block];
        if (!pair.isFresh) {
            pair.tell(channels[0].samples, channels[1].samples, block * BLOCK);
        }
        return pair;
    }

    private Told toldOf(int channel, int block, boolean isSide) {
        Pair pair = pairAt(block);
        if (isSide) {
            return channel == 0 ? pair.middle : pair.side;
        }
        return channel == 0 ? pair.left : pair.right;
    }

    private int[] linesOf(int channel) {
        if (!hasLines) {
            channels[0].makeLines(length(), settings.levels);
            channels[1].makeLines(length(), settings.levels);
            hasLines = true;
        }
        return channels[channel].lines;
    }

    private int editedPlace(int index) {
        int left = index;
        for (int i = 0; i < editCount && i < MOST_EDITS && left >= 0; i++) {
            int length = editTo[i] - editFrom[i];
            if (left < length) {
                return editFrom[i] + left;
            }
            left -= length;
        }
        return -1;
    }

    // ---- what isSound asks

    private boolean areReturned() {
        int length = length();
        for (int channel = 0; channel < channels.length; channel++) {
            for (int i = 0; i < length && i < MOST_SAMPLES; i++) {
                if (pairAt(i / BLOCK).backOf(channel)[i % BLOCK] != channels[channel].samples[i]) {
                    return false;
                }
            }
        }
        return true;
    }

    private boolean areLinesAnew() {
        int length = length();
        for (int channel = 0; channel < channels.length; channel++) {
            int[] lines = linesOf(channel);
            for (int i = 0; i < length && i < MOST_SAMPLES; i++) {
                if (lines[i] != Lifting.anew(channels[channel].samples, length, settings.levels, i)) {
                    return false;
                }
            }
        }
        return true;
    }

    private boolean areFramesSound() {
        for (int i = 0; i < codedCount && i < allFrames.length; i++) {
            Frame frame = allFrames[i];
            if (receiver.readBits(frame.sent, frame.number) != WHOLE || !isNoiseAsTold(frame)) {
                return false;
            }
            if (frame.parting.bits() != frame.parting.bitsAnew()) {
                return false;
            }
            if (frame.sent.length > frame.may && coder.canBeSmaller(frame)) {
                return false;
            }
        }
        return true;
    }

    /** Looks at the lines that the receiver has just read from the frame. */
    private boolean isNoiseAsTold(Frame frame) {
        for (int row = 0; row < settings.rows() && row < MOST_ROWS; row++) {
            int from = settings.channelOf(row) * BLOCK;
            int anew = settings.noiseOf(frame.lines, receiver.made, from, settings.bandOf(row));
            if (anew != frame.noises[row]) {
                return false;
            }
        }
        return true;
    }

    // ---- numbers

    private static int at(int[] row, int index) {
        return index >= 0 && index < row.length ? row[index] : 0;
    }

    private static int cut(int value) {
        return Math.max(LEAST_SAMPLE, Math.min(GREATEST_SAMPLE, value));
    }

    private static int numberOf(int value) {
        return value < 0 ? -2 * value - 1 : 2 * value;
    }

    private static int valueOf(int number) {
        return (number & 1) == 0 ? number >> 1 : -(number >> 1) - 1;
    }

    private static int nextState(int state) {
        return (state * 1103515245 + 12345) & 0x7fffffff;
    }

    /** The amplitude is never below 0, so that the divisor is never 0. */
    private static int noiseFrom(int state, int amplitude) {
        int width = 2 * Math.max(0, amplitude) + 1;
        return (state >> 8) % width - amplitude;
    }

    /** The samples of a channel, with 0 behind the last one, and its lines. */
    private static final class Channel {
        private final int[] samples = new int[MOST_SAMPLES];
        private final int[] lines = new int[MOST_SAMPLES];
        private int count;

        private void empty() {
            for (int i = 0; i < samples.length; i++) {
                samples[i] = 0;
            }
            count = 0;
        }

        private void putShape(char shape, int amplitude, int period, int more) {
            int state = period * 7919;
            for (int i = 0; i < more && count < samples.length; i++) {
                state = nextState(state);
                samples[count] = shape == 'n' ? noiseFrom(state, amplitude) : regular(shape, amplitude, period, i);
                count++;
            }
        }

        private static int regular(char shape, int amplitude, int period, int place) {
            int within = period > 0 ? place % period : 0;
            if (shape == 'q') {
                return within < period / 2 ? amplitude : -amplitude;
            }
            if (shape == 't') {
                return (period > 0 ? 2 * amplitude * within / period : 0) - amplitude;
            }
            return shape == 'i' && within == 0 ? amplitude : 0;
        }

        private int mix(Channel other, int shift, int percent) {
            int changed = 0;
            for (int i = 0; i < count && i < samples.length; i++) {
                int before = samples[i];
                samples[i] = cut(before + at(other.samples, i - shift) * percent / 100);
                if (samples[i] != before) {
                    changed++;
                }
            }
            return changed;
        }

        private void makeLines(int length, int levels) {
            System.arraycopy(samples, 0, lines, 0, MOST_SAMPLES);
            Lifting.forward(lines, length, levels);
        }

        private int greatest(int from, int to) {
            int most = 0;
            for (int i = Math.max(0, from); i < to && i < samples.length; i++) {
                most = Math.max(most, Math.abs(samples[i]));
            }
            return most;
        }

        private int greatestBetween(int length) {
            int most = 0;
            for (int i = 0; i < length - 1 && i < samples.length; i++) {
                int sum = 9 * (at(samples, i) + at(samples, i + 1));
                int between = (sum - at(samples, i - 1) - at(samples, i + 2)) >> 4;
                most = Math.max(most, Math.abs(between));
            }
            return most;
        }

        private long meanSquare(int block) {
            long sum = 0;
            for (int i = 0; i < BLOCK; i++) {
                long value = at(samples, block * BLOCK + i);
                sum += value * value;
            }
            return sum / BLOCK;
        }

        private long loudnessOf(int blocks) {
            long all = 0;
            for (int block = 0; block < blocks && block < MOST_BLOCKS; block++) {
                all += meanSquare(block);
            }
            long tenth = blocks > 0 ? all / blocks / 10 : 0;
            long sum = 0;
            int loud = 0;
            for (int block = 0; block < blocks && block < MOST_BLOCKS; block++) {
                long mean = meanSquare(block);
                if (mean >= tenth) {
                    sum += mean;
                    loud++;
                }
            }
            return loud > 0 ? sum / loud : 0;
        }

        private int limitTo(int level) {
            int smaller = 0;
            for (int from = 0; from < samples.length; from += BLOCK) {
                int most = greatest(from, from + BLOCK);
                if (most > level && most > 0) {
                    for (int i = from; i < from + BLOCK && i < samples.length; i++) {
                        samples[i] = samples[i] * level / most;
                    }
                    smaller++;
                }
            }
            return smaller;
        }
    }

    /** Turns samples into lines in place, and back. */
    private static final class Lifting {
        private static void forward(int[] row, int length, int levels) {
            for (int level = 1; level <= levels && level <= MOST_LEVELS; level++) {
                int half = 1 << (level - 1);
                for (int i = half; i < length && i < row.length; i += 2 * half) {
                    row[i] -= besides(row, length, i, half) >> 1;
                }
                for (int i = 0; i < length && i < row.length; i += 2 * half) {
                    row[i] += (besides(row, length, i, half) + 2) >> 2;
                }
            }
        }

        private static void backward(int[] row, int length, int levels) {
            for (int level = Math.min(levels, MOST_LEVELS); level >= 1; level--) {
                int half = 1 << (level - 1);
                for (int i = 0; i < length && i < row.length; i += 2 * half) {
                    row[i] -= (besides(row, length, i, half) + 2) >> 2;
                }
                for (int i = half; i < length && i < row.length; i += 2 * half) {
                    row[i] += besides(row, length, i, half) >> 1;
                }
            }
        }

        private static int besides(int[] row, int length, int place, int half) {
            return at(row, before(place, half)) + at(row, behind(place, half, length));
        }

        private static int before(int place, int half) {
            return place - half >= 0 ? place - half : place + half;
        }

        private static int behind(int place, int half, int length) {
            return place + half < length ? place + half : place - half;
        }

        /** Asks for what a line is made of, down to samples. */
        private static int anew(int[] samples, int length, int levels, int place) {
            for (int level = 1; level <= levels && level <= MOST_LEVELS; level++) {
                int half = 1 << (level - 1);
                if ((place & half) != 0) {
                    int own = smoothAnew(samples, length, level - 1, place - half);
                    return detailAnew(samples, length, level, place, place + half, own);
                }
            }
            return smoothAnew(samples, length, Math.min(levels, MOST_LEVELS), place);
        }

        private static int smoothAnew(int[] samples, int length, int level, int place) {
            if (level <= 0) {
                return at(samples, place);
            }
            int half = 1 << (level - 1);
            int own = smoothAnew(samples, length, level - 1, place);
            int right = detailAnew(samples, length, level, place + half, place + 2 * half, own);
            int left = place < half ? right : detailAnew(samples, length, level, place - half, place - 2 * half, own);
            return own + ((left + right + 2) >> 2);
        }

        /** One neighbour has been asked for already; the other one, if it is not there, is that again. */
        private static int detailAnew(int[] samples, int length, int level, int place, int far, int near) {
            if (level <= 0) {
                return 0;
            }
            int other = far >= 0 && far < length ? smoothAnew(samples, length, level - 1, far) : near;
            return smoothAnew(samples, length, level - 1, place) - ((near + other) >> 1);
        }
    }

    /** Bits one behind the other; the longest row, a frame of ten bands, takes fewer than 2048. */
    private static final class Bits {
        private static final int MOST_BITS = 2048;
        private static final int WORD = 32;

        private final int[] words = new int[MOST_BITS / WORD];
        private int length;
        private int place;
        private int end;
        private boolean isOver;

        private void empty() {
            for (int i = 0; i < words.length; i++) {
                words[i] = 0;
            }
            length = 0;
        }

        private void become(Bits other) {
            System.arraycopy(other.words, 0, words, 0, MOST_BITS / WORD);
            length = other.length;
        }

        private void put(int value, int width) {
            for (int i = width - 1; i >= 0; i--) {
                if (length < MOST_BITS) {
                    words[length / WORD] |= ((value >> i) & 1) << (length % WORD);
                    length++;
                }
            }
        }

        private int at(int index) {
            if (index < 0 || index >= MOST_BITS) {
                return 0;
            }
            return (words[index / WORD] >> (index % WORD)) & 1;
        }

        private void turnOver(int index) {
            if (index >= 0 && index < MOST_BITS) {
                words[index / WORD] ^= 1 << (index % WORD);
            }
        }

        private void readFrom(int from, int to) {
            place = from;
            end = Math.min(to, length);
            isOver = false;
        }

        private int take(int width) {
            int value = 0;
            for (int i = 0; i < width; i++) {
                if (place < 0 || place >= end || place >= MOST_BITS) {
                    isOver = true;
                    return 0;
                }
                value = (value << 1) | ((words[place / WORD] >> (place % WORD)) & 1);
                place++;
            }
            return value;
        }

        private int valueAt(int from, int width) {
            int value = 0;
            for (int i = 0; i < width; i++) {
                value = (value << 1) | at(from + i);
            }
            return value;
        }

        private int checkOf(int count) {
            int sum = 0;
            for (int i = 0; i < count; i++) {
                if (at(i) == 1) {
                    sum += (i + 1) % 251;
                }
            }
            return sum & 255;
        }
    }

    /** A block told without loss: by an order, a parameter and residuals. */
    private static final class Told {
        private static final int MOST_ORDER = 3;
        private static final int MOST_PARAMETER = 14;
        private static final int HEAD = 6;
        /** As many as there are bits at most. */
        private static final int MOST_ONES = 2048;

        private final int[] values = new int[BLOCK];
        private final int[] residuals = new int[BLOCK];
        private int order;
        private int parameter;
        private int bits;

        private int predicted(int by, int place) {
            int known = Math.min(by, place);
            if (known <= 0 || place > values.length) {
                return 0;
            }
            int last = values[place - 1];
            if (known == 1) {
                return last;
            }
            int ahead = values[place - 2];
            return known == 2 ? 2 * last - ahead : 3 * last - 3 * ahead + values[place - 3];
        }

        /** What the values are told by, once they stand. */
        private void choose() {
            order = 0;
            int least = residualSum(0);
            for (int other = 1; other <= MOST_ORDER; other++) {
                int sum = residualSum(other);
                if (sum < least) {
                    least = sum;
                    order = other;
                }
            }
            for (int i = 0; i < BLOCK; i++) {
                residuals[i] = values[i] - predicted(order, i);
            }
            parameter = 0;
            int fewest = bitsBy(0);
            for (int other = 1; other <= MOST_PARAMETER; other++) {
                int sum = bitsBy(other);
                if (sum < fewest) {
                    fewest = sum;
                    parameter = other;
                }
            }
            bits = HEAD + fewest;
        }

        private int residualSum(int by) {
            int sum = 0;
            for (int i = 0; i < BLOCK; i++) {
                sum += Math.abs(values[i] - predicted(by, i));
            }
            return sum;
        }

        private int bitsBy(int by) {
            int sum = 0;
            for (int i = 0; i < BLOCK; i++) {
                sum += (numberOf(residuals[i]) >> by) + 1 + by;
            }
            return sum;
        }

        private void putInto(Bits row) {
            row.put(order, 2);
            row.put(parameter, 4);
            for (int i = 0; i < BLOCK; i++) {
                int number = numberOf(residuals[i]);
                for (int ones = number >> parameter; ones > 0; ones--) {
                    row.put(1, 1);
                }
                row.put(0, 1);
                row.put(number, parameter);
            }
        }

        private void takeFrom(Bits row) {
            order = row.take(2);
            parameter = row.take(4);
            for (int i = 0; i < BLOCK; i++) {
                int ones = 0;
                while (ones < MOST_ONES && row.take(1) == 1) {
                    ones++;
                }
                residuals[i] = valueOf((ones << parameter) | row.take(parameter));
                values[i] = predicted(order, i) + residuals[i];
            }
        }
    }

    /** A block of each channel, told as they are or by middle and side, and read back from its bits. */
    private static final class Pair {
        private final Told left = new Told();
        private final Told right = new Told();
        private final Told middle = new Told();
        private final Told side = new Told();
        private final Told first = new Told();
        private final Told second = new Told();
        private final Bits bits = new Bits();
        private boolean isSided;
        private boolean isFresh;

        private void tell(int[] leftRow, int[] rightRow, int from) {
            for (int i = 0; i < BLOCK; i++) {
                left.values[i] = at(leftRow, from + i);
                right.values[i] = at(rightRow, from + i);
                side.values[i] = left.values[i] - right.values[i];
                middle.values[i] = right.values[i] + (side.values[i] >> 1);
            }
            left.choose();
            right.choose();
            middle.choose();
            side.choose();
            isSided = middle.bits + side.bits < left.bits + right.bits;
            write();
            readBack();
            isFresh = true;
        }

        private void write() {
            bits.empty();
            bits.put(isSided ? 1 : 0, 1);
            if (isSided) {
                middle.putInto(bits);
                side.putInto(bits);
            } else {
                left.putInto(bits);
                right.putInto(bits);
            }
        }

        private void readBack() {
            bits.readFrom(0, bits.length);
            boolean isBySide = bits.take(1) == 1;
            first.takeFrom(bits);
            second.takeFrom(bits);
            for (int i = 0; i < BLOCK && isBySide; i++) {
                int apart = second.values[i];
                second.values[i] = first.values[i] - (apart >> 1);
                first.values[i] = second.values[i] + apart;
            }
        }

        private int[] backOf(int channel) {
            return channel == 0 ? first.values : second.values;
        }
    }

    /** The codes of the symbols 0 to 7. */
    private static final class Book {
        private final int[] lengths = new int[SYMBOLS];
        private final int[] codes = new int[SYMBOLS];

        private Book(int[] given) {
            for (int i = 0; i < SYMBOLS && i < given.length; i++) {
                lengths[i] = given[i];
            }
            giveCodes();
        }

        private void giveCodes() {
            int next = 0;
            for (int length = 1; length <= MOST_LENGTH; length++) {
                next <<= 1;
                for (int i = 0; i < SYMBOLS; i++) {
                    if (lengths[i] == length) {
                        codes[i] = next;
                        next++;
                    }
                }
            }
        }

        private boolean canTell(int symbol, int length) {
            int sum = 256 >> length;
            for (int i = 0; i < SYMBOLS; i++) {
                if (i != symbol) {
                    sum += 256 >> lengths[i];
                }
            }
            return sum <= 256;
        }

        private int bitsFor(int number) {
            if (number < LAST_SYMBOL) {
                return at(lengths, number);
            }
            return lengths[LAST_SYMBOL] + EXTRA_BITS;
        }

        private void putInto(Bits row, int number) {
            int symbol = Math.max(0, Math.min(number, LAST_SYMBOL));
            row.put(codes[symbol], lengths[symbol]);
            if (symbol == LAST_SYMBOL) {
                row.put(number - LAST_SYMBOL, EXTRA_BITS);
            }
        }

        /** Is -1 if the bits are none of the codes. */
        private int takeSymbol(Bits row) {
            int code = 0;
            for (int length = 1; length <= MOST_LENGTH; length++) {
                code = (code << 1) | row.take(1);
                for (int i = 0; i < SYMBOLS; i++) {
                    if (lengths[i] == length && codes[i] == code) {
                        return i;
                    }
                }
            }
            return -1;
        }
    }

    /** What is set, and what it makes of lines: bands, strengths, masks, noise. */
    private static final class Settings {
        private static final int[] STEEP = {1, 2, 3, 4, 5, 6, 7, 7};
        private static final int[] FLAT = {3, 3, 3, 3, 3, 3, 3, 3};
        private static final int[] GENTLE = {2, 2, 2, 4, 4, 4, 5, 5};

        private final int[] quiet = {2, 2, 2, 2, 2};
        private final Book[] books = {new Book(STEEP), new Book(FLAT), new Book(GENTLE)};
        /** The band of each place of a frame. */
        private final int[] bands = new int[BLOCK];
        private int levels;
        private int rate = 4000;
        private int room = 2000;
        private boolean mayNoise;

        private Settings() {
            takeLevels(3);
        }

        private void takeLevels(int given) {
            levels = given;
            for (int i = 0; i < BLOCK; i++) {
                int twos = 0;
                while (twos < levels && ((i >> twos) & 1) == 0) {
                    twos++;
                }
                bands[i] = levels - twos;
            }
        }

        private int rows() {
            return 2 * (levels + 1);
        }

        private int rowOf(int channel, int band) {
            return channel * (levels + 1) + band;
        }

        private int channelOf(int row) {
            return row <= levels ? 0 : 1;
        }

        private int bandOf(int row) {
            return row <= levels ? row : row - levels - 1;
        }

        private int strengthOf(int[] lines, int from, int band) {
            int sum = 0;
            int count = 0;
            for (int i = 0; i < BLOCK; i++) {
                if (bands[i] == band) {
                    sum += Math.abs(at(lines, from + i));
                    count++;
                }
            }
            return count > 0 ? sum / count : 0;
        }

        private int greatestOf(int[] lines, int from, int band) {
            int most = 0;
            for (int i = 0; i < BLOCK; i++) {
                if (bands[i] == band) {
                    most = Math.max(most, Math.abs(at(lines, from + i)));
                }
            }
            return most;
        }

        private int noiseOf(int[] lines, int[] made, int from, int band) {
            int sum = 0;
            int count = 0;
            for (int i = 0; i < BLOCK; i++) {
                if (bands[i] == band) {
                    sum += Math.abs(at(lines, from + i) - at(made, from + i));
                    count++;
                }
            }
            return count > 0 ? (sum + count - 1) / count : 0;
        }

        private int maskOf(int[] lines, int block, int band) {
            int from = block * BLOCK;
            int most = Math.max(at(quiet, band), strengthOf(lines, from, band) / 8);
            if (band > 0) {
                most = Math.max(most, strengthOf(lines, from, band - 1) / 16);
            }
            if (band < levels) {
                most = Math.max(most, strengthOf(lines, from, band + 1) / 32);
            }
            most = Math.max(most, strengthOf(lines, from - BLOCK, band) / 32);
            return Math.max(most, strengthOf(lines, from + BLOCK, band) / 64);
        }

        private void makeNoise(int[] made, int from, int band, int strength) {
            int state = 1;
            for (int i = 0; i < BLOCK; i++) {
                if (bands[i] == band) {
                    state = nextState(state);
                    if (from >= 0 && from + i < made.length) {
                        made[from + i] = noiseFrom(state, strength);
                    }
                }
            }
        }

        private static int sizeOf(int step) {
            int size = 1 << (step / 2);
            return (step & 1) == 1 ? size * 3 / 2 : size;
        }
    }

    /** The rows of a frame, parted into sections of one book each, for the fewest bits. */
    private static final class Parting {
        private final int[] costs = new int[MOST_ROWS * BOOKS];
        private final int[] books = new int[MOST_ROWS];
        private final int[] least = new int[MOST_ROWS + 1];
        private final int[] spans = new int[MOST_ROWS];
        private final int[] picks = new int[MOST_ROWS];
        private int rows;
        private int count;

        private int bits() {
            return least[0];
        }

        private int costOf(int row, int book) {
            int place = row * BOOKS + book;
            return place >= 0 && place < costs.length ? costs[place] : 0;
        }

        private void choose(int allRows) {
            rows = Math.min(allRows, MOST_ROWS);
            least[rows] = 0;
            for (int row = rows - 1; row >= 0; row--) {
                chooseFirst(row);
            }
            count = 0;
            int behind = 0;
            int book = 0;
            for (int row = 0; row < rows; row++) {
                if (row == behind) {
                    count++;
                    behind = row + spans[row];
                    book = picks[row];
                }
                books[row] = book;
            }
        }

        /** The lower books are tried first, so that of as many bits only a longer section wins. */
        private void chooseFirst(int row) {
            least[row] = Integer.MAX_VALUE;
            spans[row] = 0;
            for (int book = 0; book < BOOKS; book++) {
                int own = SECTION_HEAD;
                for (int span = 1; span <= MOST_SECTION && row + span <= rows; span++) {
                    own += costOf(row + span - 1, book);
                    int all = own + least[row + span];
                    if (all < least[row] || all == least[row] && span > spans[row]) {
                        least[row] = all;
                        spans[row] = span;
                        picks[row] = book;
                    }
                }
            }
        }

        private int spanCost(int row, int span, int book) {
            int sum = 0;
            for (int i = 0; i < span; i++) {
                sum += costOf(row + i, book);
            }
            return sum;
        }

        /** Each bit of the cuts is a border between two rows, so that all partings come by. */
        private int bitsAnew() {
            int fewest = Integer.MAX_VALUE;
            for (int cuts = 0; cuts < 1 << (rows - 1); cuts++) {
                int sum = cutBits(cuts);
                if (sum >= 0 && sum < fewest) {
                    fewest = sum;
                }
            }
            return fewest;
        }

        /** Is -1 if a section would be too long. */
        private int cutBits(int cuts) {
            int sum = 0;
            int start = 0;
            for (int row = 0; row < rows; row++) {
                if (row == rows - 1 || ((cuts >> row) & 1) == 1) {
                    int span = row + 1 - start;
                    if (span > MOST_SECTION) {
                        return -1;
                    }
                    int best = spanCost(start, span, 0);
                    for (int book = 1; book < BOOKS; book++) {
                        best = Math.min(best, spanCost(start, span, book));
                    }
                    sum += SECTION_HEAD + best;
                    start = row + 1;
                }
            }
            return sum;
        }
    }

    /** A frame as it was coded, and as it is at the receiver. */
    private static final class Frame {
        private final int number;
        private final int[] lines = new int[2 * BLOCK];
        private final int[] amounts = new int[2 * BLOCK];
        private final int[] made = new int[2 * BLOCK];
        private final int[] steps = new int[MOST_ROWS];
        private final int[] told = new int[MOST_ROWS];
        private final int[] noises = new int[MOST_ROWS];
        private final Parting parting = new Parting();
        private final Bits sent = new Bits();
        private final Bits bits = new Bits();
        private int may;
        private int saved;
        private boolean isLost;
        private int arrival = NEVER;

        private Frame(int number) {
            this.number = number;
        }

        private void takeLines(int[] left, int[] right) {
            for (int i = 0; i < BLOCK; i++) {
                lines[i] = at(left, number * BLOCK + i);
                lines[BLOCK + i] = at(right, number * BLOCK + i);
            }
        }

        private void sendAgain() {
            bits.become(sent);
            isLost = false;
        }
    }

    /** Tells frames in bits, as many as the rate and what was saved allow. */
    private static final class Coder {
        /** Far above what ten rows of sixteen steps can ask for. */
        private static final int MOST_TURNS = 1000;

        private final Settings settings;

        private Coder(Settings settings) {
            this.settings = settings;
        }

        private void tell(Frame frame, int[] left, int[] right, int saved) {
            int rows = settings.rows();
            for (int row = 0; row < rows && row < MOST_ROWS; row++) {
                int[] lines = settings.channelOf(row) == 0 ? left : right;
                chooseStep(frame, row, settings.maskOf(lines, frame.number, settings.bandOf(row)));
                reckon(frame, row);
            }
            frame.parting.choose(rows);
            frame.may = settings.rate + saved;
            shrink(frame);
            frame.saved = Math.max(0, Math.min(settings.room, frame.may - bitsOf(frame)));
            write(frame);
            frame.sendAgain();
        }

        private void chooseStep(Frame frame, int row, int mask) {
            int from = settings.channelOf(row) * BLOCK;
            int band = settings.bandOf(row);
            int strength = settings.strengthOf(frame.lines, from, band);
            if (mayBeNoise(frame, row, strength)) {
                frame.steps[row] = NOISE;
                frame.told[row] = Math.min(strength, MOST_TOLD);
                becomeNoise(frame, row);
                return;
            }
            for (int step = LAST_STEP; step >= 0; step--) {
                frame.steps[row] = step;
                round(frame, row);
                if (frame.noises[row] <= mask) {
                    return;
                }
            }
        }

        private boolean mayBeNoise(Frame frame, int row, int strength) {
            int band = settings.bandOf(row);
            if (!settings.mayNoise || band < 2 || strength == 0) {
                return false;
            }
            return settings.greatestOf(frame.lines, settings.channelOf(row) * BLOCK, band) <= 2 * strength;
        }

        private void becomeNoise(Frame frame, int row) {
            int from = settings.channelOf(row) * BLOCK;
            int band = settings.bandOf(row);
            becomeNothing(frame, row);
            settings.makeNoise(frame.made, from, band, frame.told[row]);
            frame.noises[row] = settings.noiseOf(frame.lines, frame.made, from, band);
        }

        private void becomeNothing(Frame frame, int row) {
            int from = settings.channelOf(row) * BLOCK;
            int band = settings.bandOf(row);
            for (int i = 0; i < BLOCK; i++) {
                if (settings.bands[i] == band) {
                    frame.amounts[from + i] = 0;
                    frame.made[from + i] = 0;
                }
            }
            frame.noises[row] = settings.noiseOf(frame.lines, frame.made, from, band);
        }

        private void round(Frame frame, int row) {
            int from = settings.channelOf(row) * BLOCK;
            int band = settings.bandOf(row);
            int size = Math.max(1, Settings.sizeOf(frame.steps[row]));
            for (int i = 0; i < BLOCK; i++) {
                if (settings.bands[i] == band) {
                    int place = from + i;
                    int amount = (Math.abs(frame.lines[place]) + size / 2) / size;
                    frame.amounts[place] = frame.lines[place] < 0 ? -amount : amount;
                    frame.made[place] = frame.amounts[place] * size;
                }
            }
            frame.noises[row] = settings.noiseOf(frame.lines, frame.made, from, band);
        }

        private void reckon(Frame frame, int row) {
            int from = settings.channelOf(row) * BLOCK;
            int band = settings.bandOf(row);
            for (int book = 0; book < BOOKS; book++) {
                int sum = 0;
                for (int i = 0; i < BLOCK; i++) {
                    if (settings.bands[i] == band) {
                        sum += settings.books[book].bitsFor(numberOf(frame.amounts[from + i]));
                    }
                }
                frame.parting.costs[row * BOOKS + book] = sum;
            }
        }

        private int bitsOf(Frame frame) {
            int sum = 24 + frame.parting.bits();
            for (int row = 0; row < settings.rows() && row < MOST_ROWS; row++) {
                sum += frame.steps[row] == NOISE ? 16 : 5;
            }
            return sum;
        }

        private void shrink(Frame frame) {
            for (int i = 0; i < MOST_TURNS && bitsOf(frame) > frame.may; i++) {
                int row = dearest(frame);
                if (row >= 0) {
                    frame.steps[row]++;
                    round(frame, row);
                } else {
                    row = lastTold(frame);
                    if (row < 0) {
                        return;
                    }
                    becomeNothing(frame, row);
                }
                reckon(frame, row);
                frame.parting.choose(settings.rows());
            }
        }

        /** The row that takes the most bits of those whose step can be greater, or -1. */
        private int dearest(Frame frame) {
            int found = -1;
            int most = -1;
            for (int row = 0; row < settings.rows() && row < MOST_ROWS; row++) {
                int bits = frame.parting.costOf(row, frame.parting.books[row]);
                boolean canRise = frame.steps[row] != NOISE && frame.steps[row] < LAST_STEP;
                if (canRise && bits > most) {
                    found = row;
                    most = bits;
                }
            }
            return found;
        }

        /** The last row with amounts that are not 0, or -1. */
        private int lastTold(Frame frame) {
            for (int row = Math.min(settings.rows(), MOST_ROWS) - 1; row >= 0; row--) {
                int from = settings.channelOf(row) * BLOCK;
                if (settings.greatestOf(frame.amounts, from, settings.bandOf(row)) > 0) {
                    return row;
                }
            }
            return -1;
        }

        private boolean canBeSmaller(Frame frame) {
            return dearest(frame) >= 0 || lastTold(frame) >= 0;
        }

        private void write(Frame frame) {
            Bits row = frame.sent;
            row.empty();
            row.put(SIGN, 8);
            row.put(frame.number, 8);
            for (int i = 0; i < settings.rows() && i < MOST_ROWS; i++) {
                boolean isNoise = frame.steps[i] == NOISE;
                row.put(isNoise ? 1 : 0, 1);
                row.put(isNoise ? frame.told[i] : frame.steps[i], isNoise ? 15 : 4);
            }
            int behind = 0;
            for (int i = 0; i < settings.rows() && i < MOST_ROWS; i++) {
                if (i == behind) {
                    int span = frame.parting.spans[i];
                    row.put(frame.parting.books[i], 2);
                    row.put(span - 1, 3);
                    behind = i + span;
                }
                writeRow(frame, i);
            }
            row.put(row.checkOf(row.length), 8);
        }

        private void writeRow(Frame frame, int row) {
            int from = settings.channelOf(row) * BLOCK;
            int band = settings.bandOf(row);
            Book book = settings.books[frame.parting.books[row]];
            for (int i = 0; i < BLOCK; i++) {
                if (settings.bands[i] == band) {
                    book.putInto(frame.sent, numberOf(frame.amounts[from + i]));
                }
            }
        }
    }

    /** Reads frames, hides those that are not whole, and turns lines back into samples. */
    private static final class Receiver {
        private final Settings settings;
        private final int[] made = new int[2 * BLOCK];
        private final int[] steps = new int[MOST_ROWS];
        private final int[] told = new int[MOST_ROWS];
        private final int[][] back = new int[2][MOST_SAMPLES];
        private final int[][] whole = new int[2][MOST_SAMPLES];
        private final int[][] late = new int[2][MOST_SAMPLES];
        private boolean isFresh;

        private Receiver(Settings settings) {
            this.settings = settings;
        }

        private char read(Frame frame) {
            return frame.isLost ? LOST : readBits(frame.bits, frame.number);
        }

        /** Leaves the lines in made, and says what is wrong. */
        private char readBits(Bits row, int number) {
            int end = row.length - 8;
            if (row.valueAt(0, 8) != SIGN) {
                return 's';
            }
            if (row.valueAt(8, 8) != number) {
                return 'n';
            }
            if (row.valueAt(end, 8) != row.checkOf(end)) {
                return 'c';
            }
            row.readFrom(16, end);
            readHeads(row);
            int behind = 0;
            int book = 0;
            for (int i = 0; i < settings.rows() && i < MOST_ROWS; i++) {
                if (i == behind) {
                    book = row.take(2);
                    behind = i + row.take(3) + 1;
                }
                if (book >= BOOKS || behind > settings.rows() || !readRow(row, i, settings.books[book])) {
                    return 'e';
                }
            }
            return row.place == end ? WHOLE : 'e';
        }

        private void readHeads(Bits row) {
            for (int i = 0; i < settings.rows() && i < MOST_ROWS; i++) {
                boolean isNoise = row.take(1) == 1;
                int value = row.take(isNoise ? 15 : 4);
                steps[i] = isNoise ? NOISE : value;
                told[i] = isNoise ? value : 0;
            }
        }

        private boolean readRow(Bits bits, int row, Book book) {
            int from = settings.channelOf(row) * BLOCK;
            int band = settings.bandOf(row);
            boolean isNoise = steps[row] == NOISE;
            int size = isNoise ? 0 : Settings.sizeOf(steps[row]);
            for (int i = 0; i < BLOCK; i++) {
                if (settings.bands[i] == band) {
                    int number = book.takeSymbol(bits);
                    if (number == LAST_SYMBOL) {
                        number += bits.take(EXTRA_BITS);
                    }
                    if (number < 0 || bits.isOver) {
                        return false;
                    }
                    made[from + i] = valueOf(number) * size;
                }
            }
            if (isNoise) {
                settings.makeNoise(made, from, band, told[row]);
            }
            return true;
        }

        private void comeBack(Frame[] frames, int count) {
            if (isFresh) {
                return;
            }
            for (int i = 0; i < count && i < frames.length; i++) {
                if (read(frames[i]) == WHOLE) {
                    put(back, i);
                } else {
                    hide(back, i);
                }
            }
            turnBack(back, count);
            isFresh = true;
        }

        /** As if the frames ahead of the first one were not there, and all from it on as they were coded. */
        private void comeWithout(Frame[] frames, int count, int first, int[][] rows) {
            for (int i = 0; i < count && i < frames.length; i++) {
                if (i >= first && readBits(frames[i].sent, i) == WHOLE) {
                    put(rows, i);
                } else {
                    silence(rows, i);
                }
            }
            turnBack(rows, count);
        }

        private void put(int[][] rows, int frame) {
            int from = frame * BLOCK;
            for (int i = 0; i < BLOCK && from + i < MOST_SAMPLES; i++) {
                rows[0][from + i] = made[i];
                rows[1][from + i] = made[BLOCK + i];
            }
        }

        private void silence(int[][] rows, int frame) {
            for (int i = frame * BLOCK; i < (frame + 1) * BLOCK && i < MOST_SAMPLES; i++) {
                rows[0][i] = 0;
                rows[1][i] = 0;
            }
        }

        private void hide(int[][] rows, int frame) {
            for (int i = frame * BLOCK; i < (frame + 1) * BLOCK && i < MOST_SAMPLES; i++) {
                rows[0][i] = at(rows[0], i - BLOCK) / 2;
                rows[1][i] = at(rows[1], i - BLOCK) / 2;
            }
        }

        private void turnBack(int[][] rows, int count) {
            int length = Math.min(MOST_SAMPLES, count * BLOCK);
            for (int channel = 0; channel < 2; channel++) {
                int[] row = rows[channel];
                Lifting.backward(row, length, settings.levels);
                for (int i = 0; i < row.length; i++) {
                    row[i] = i < length ? cut(row[i]) : 0;
                }
            }
        }

        private boolean isOtherwise(int frame) {
            for (int i = frame * BLOCK; i < (frame + 1) * BLOCK && i < MOST_SAMPLES; i++) {
                if (whole[0][i] != late[0][i] || whole[1][i] != late[1][i]) {
                    return true;
                }
            }
            return false;
        }
    }
}
