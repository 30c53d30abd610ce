import java.util.ArrayList;
import java.util.List;
import java.util.NoSuchElementException;
import java.util.function.Supplier;

/** "A method that throws an exception changes nothing. If several exceptions apply, the one that is documented first is thrown." */
public final class RefusalsTest {
    private static final Check CHECK = new Check();
    private static final int LEAST = Integer.MIN_VALUE;
    private static final int MOST = Integer.MAX_VALUE;

    private final String state;
    private final Supplier<Maskingtone> made;
    private final Questions questions;
    private final String before;

    private RefusalsTest(String state, int blocks, Supplier<Maskingtone> made) {
        this.state = state;
        this.made = made;
        this.questions = new Questions(blocks);
        this.before = questions.answers(made);
        CHECK.due("two objects made alike answer alike: " + state, questions.answers(made), before);
    }

    public static void main(String[] args) {
        Document.says(CHECK, "A method that throws an exception changes nothing. If several exceptions apply, the one that is documented first is thrown.");
        testThatChangesAreSeen();
        List<RefusalsTest> all = new ArrayList<>();
        all.add(new RefusalsTest("of nothing", 1, Maskingtone::new));
        all.add(new RefusalsTest("of samples", 2, RefusalsTest::samples));
        all.add(new RefusalsTest("of frames", 2, RefusalsTest::coded));
        all.add(new RefusalsTest("of lost frames", 2, RefusalsTest::hurt));
        for (RefusalsTest each : all) {
            each.refuseSamples();
            each.refuseLossless();
            each.refuseLines();
            each.refuseBooks();
            each.refuseRates();
            each.refuseFrames();
            each.refuseLate();
            each.refuseLoudness();
        }
        all.get(0).refuseOfNothing();
        all.get(1).refuseOfSamples();
        all.get(2).refuseOfFrames();
        all.get(3).refuseOfLostFrames();
        new RefusalsTest("of a full channel", 8, RefusalsTest::full).refuseOfFull();
        CHECK.end();
    }

    private static Maskingtone samples() {
        Maskingtone house = new Maskingtone();
        house.shape(0, 'n', 300, 5, 40);
        house.shape(1, 'q', 70, 6, 33);
        house.setLevels(2);
        house.setQuiet(1, 7);
        house.setLength(2, 7, 8);
        house.setRate(300, 50);
        house.setNoise(true);
        house.keep(1, 4);
        return house;
    }

    private static Maskingtone coded() {
        Maskingtone house = samples();
        house.code();
        house.arrive(0, 3);
        house.arrive(1, 25);
        return house;
    }

    private static Maskingtone hurt() {
        Maskingtone house = coded();
        house.lose(0);
        house.turn(1, 20);
        for (int i = 0; i < 7; i++) {
            house.keep(i, 2 * i + 1);
        }
        return house;
    }

    private static Maskingtone full() {
        Maskingtone house = new Maskingtone();
        for (int i = 0; i < 4; i++) {
            house.shape(0, 'n', 500, 3 + i, 64);
        }
        house.shape(1, 'n', 500, 3, 64);
        house.shape(1, 'n', 500, 3, 1);
        house.code();
        house.arrive(7, 9);
        return house;
    }

    /** What the questions would not see could be changed by a refused call without being found. */
    private static void testThatChangesAreSeen() {
        Questions questions = new Questions(2);
        String before = questions.answers(RefusalsTest::hurt);
        Questions.Question[] changes = {house -> house.shape(0, 'z', 0, 2, 1), house -> house.setSample(0, 0, 9), house -> house.add(0, 0, 0),
            house -> house.clear(), house -> house.setLevels(2), house -> house.setQuiet(4, 2), house -> house.setLength(0, 7, 7),
            house -> house.setRate(300, 50), house -> house.setNoise(true), house -> house.code(), house -> house.lose(1), house -> house.turn(1, 0),
            house -> house.repair(0), house -> house.arrive(0, 4), house -> house.dropEdits(), house -> house.limit(32767)};
        for (int i = 0; i < changes.length; i++) {
            Questions.Question change = changes[i];
            String then = questions.answers(() -> {
                Maskingtone house = hurt();
                change.of(house);
                return house;
            });
            CHECK.due("the change " + i + " is seen", then.equals(before), false);
        }
    }

    private void refused(String call, Class<? extends RuntimeException> kind, Questions.Question question) {
        String what = call + " " + state;
        CHECK.throwing(what, kind, () -> question.of(made.get()));
        String then = questions.answers(() -> {
            Maskingtone house = made.get();
            try {
                question.of(house);
            } catch (RuntimeException e) {
                return house;
            }
            return house;
        });
        CHECK.due(what + " changes nothing", then.equals(before), true);
    }

    private void noPlace(String call, Questions.Question question) {
        refused(call, IndexOutOfBoundsException.class, question);
    }

    private void noArgument(String call, Questions.Question question) {
        refused(call, IllegalArgumentException.class, question);
    }

    private void noElement(String call, Questions.Question question) {
        refused(call, NoSuchElementException.class, question);
    }

    private void refuseSamples() {
        for (int channel : new int[] {-1, 2, LEAST, MOST}) {
            noPlace("shape of the channel " + channel, house -> house.shape(channel, 'q', 1, 2, 1));
            noPlace("shape of no channel and else wrong", house -> house.shape(channel, 'x', -1, 1, 0));
            noPlace("add of the channel " + channel, house -> house.add(channel, 0, 0));
            noPlace("add of no channel and else wrong", house -> house.add(channel, -1, 101));
            noPlace("setSample of the channel " + channel, house -> house.setSample(channel, 0, 0));
            noPlace("setSample of no channel and else wrong", house -> house.setSample(channel, -1, 40000));
            noPlace("samples of the channel " + channel, house -> house.samples(channel));
            noPlace("sample of the channel " + channel, house -> house.sample(channel, 0));
        }
        for (char shape : new char[] {'x', 'Q', 'p', 'r', 's', 'u', 'y', '{', 'h', 'j', 'm', 'o', ' ', (char) 0, (char) 255, (char) 65535}) {
            noArgument("the shape " + (int) shape, house -> house.shape(0, shape, 1, 2, 1));
        }
        for (int amplitude : new int[] {-1, 16001, LEAST, MOST}) {
            noArgument("the amplitude " + amplitude, house -> house.shape(0, 'q', amplitude, 2, 1));
        }
        for (int period : new int[] {1, 65, 0, -2, LEAST, MOST}) {
            noArgument("the period " + period, house -> house.shape(1, 'z', 1, period, 1));
        }
        for (int count : new int[] {0, 65, -1, LEAST, MOST}) {
            noArgument("the count " + count, house -> house.shape(1, 'n', 1, 2, count));
        }
        for (int shift : new int[] {-1, 65, LEAST, MOST}) {
            noArgument("the shift " + shift, house -> house.add(0, shift, 1));
        }
        for (int percent : new int[] {-101, 101, LEAST, MOST}) {
            noArgument("the percent " + percent, house -> house.add(1, 0, percent));
        }
        for (int index : new int[] {-1, 40, 64, 256, LEAST, MOST}) {
            noPlace("setSample at " + index, house -> house.setSample(0, index, 1));
            noPlace("setSample at " + index + " and else wrong", house -> house.setSample(0, index, 32768));
        }
        for (int index : new int[] {-1, 64, 256, LEAST, MOST}) {
            noPlace("sample at " + index, house -> house.sample(1, index));
        }
    }

    private void refuseLossless() {
        for (int channel : new int[] {-1, 2, LEAST, MOST}) {
            noPlace("order of the channel " + channel, house -> house.order(channel, 0, false));
            noPlace("parameter of the channel " + channel, house -> house.parameter(channel, 0, true));
            noPlace("residual of the channel " + channel, house -> house.residual(channel, 0, true, 0));
            noPlace("returned of the channel " + channel, house -> house.returned(channel, 0));
        }
        for (int block : new int[] {-1, 2, 8, LEAST, MOST}) {
            noPlace("order of the block " + block, house -> house.order(0, block, false));
            noPlace("parameter of the block " + block, house -> house.parameter(1, block, true));
            noPlace("residual of the block " + block, house -> house.residual(1, block, false, 0));
            noPlace("isStereo of the block " + block, house -> house.isStereo(block));
            noPlace("pairBits of the block " + block, house -> house.pairBits(block));
            noPlace("bitOf of the block " + block, house -> house.bitOf(block, 0));
            noPlace("bitOf of the block " + block + " and no bit", house -> house.bitOf(block, -1));
        }
        for (int index : new int[] {-1, 32, LEAST, MOST}) {
            noPlace("residual at " + index, house -> house.residual(0, 0, true, index));
        }
        for (int index : new int[] {-1, 64, LEAST, MOST}) {
            noPlace("returned at " + index, house -> house.returned(0, index));
        }
    }

    private void refuseLines() {
        for (int levels : new int[] {0, 5, -1, LEAST, MOST}) {
            noArgument("the levels " + levels, house -> house.setLevels(levels));
        }
        for (int channel : new int[] {-1, 2, LEAST, MOST}) {
            noPlace("line of the channel " + channel, house -> house.line(channel, 0));
            noPlace("lineAnew of the channel " + channel, house -> house.lineAnew(channel, 0));
            noPlace("strength of the channel " + channel, house -> house.strength(channel, 0, 0));
            noPlace("strength of no channel and no band", house -> house.strength(channel, 0, -1));
            noPlace("mask of the channel " + channel, house -> house.mask(channel, 0, 0));
            noPlace("mask of no channel and no band", house -> house.mask(channel, 0, 5));
        }
        for (int index : new int[] {-1, 64, LEAST, MOST}) {
            noPlace("line at " + index, house -> house.line(0, index));
            noPlace("lineAnew at " + index, house -> house.lineAnew(0, index));
        }
        for (int block : new int[] {-1, 2, LEAST, MOST}) {
            noPlace("strength of the block " + block, house -> house.strength(0, block, 0));
            noPlace("strength of no block and no band", house -> house.strength(0, block, 9));
            noPlace("mask of the block " + block, house -> house.mask(0, block, 0));
            noPlace("mask of no block and no band", house -> house.mask(0, block, -9));
        }
        for (int band : new int[] {-1, 5, LEAST, MOST}) {
            noArgument("setQuiet of the band " + band, house -> house.setQuiet(band, 1));
        }
        for (int quiet : new int[] {-1, 1001, LEAST, MOST}) {
            noArgument("setQuiet to " + quiet, house -> house.setQuiet(0, quiet));
        }
    }

    private void refuseBooks() {
        for (int book : new int[] {-1, 3, LEAST, MOST}) {
            noPlace("setLength of the book " + book, house -> house.setLength(book, 0, 8));
            noPlace("setLength of no book and else wrong", house -> house.setLength(book, 8, 9));
            noPlace("codeOf of the book " + book, house -> house.codeOf(book, 0));
            noPlace("codeOf of no book and no symbol", house -> house.codeOf(book, 8));
            noPlace("lengthOf of the book " + book, house -> house.lengthOf(book, 0));
            noPlace("lengthOf of no book and no symbol", house -> house.lengthOf(book, -1));
        }
        for (int symbol : new int[] {-1, 8, LEAST, MOST}) {
            noArgument("setLength of the symbol " + symbol, house -> house.setLength(0, symbol, 8));
            noArgument("setLength of no symbol, too short", house -> house.setLength(0, symbol, 1));
            noArgument("codeOf of the symbol " + symbol, house -> house.codeOf(0, symbol));
            noArgument("lengthOf of the symbol " + symbol, house -> house.lengthOf(0, symbol));
        }
        for (int length : new int[] {0, 9, -1, LEAST, MOST}) {
            noArgument("setLength to " + length, house -> house.setLength(1, 7, length));
        }
        refused("setLength that is too short", UnsupportedOperationException.class, house -> house.setLength(1, 0, 2));
        refused("setLength that is far too short", UnsupportedOperationException.class, house -> house.setLength(0, 7, 1));
    }

    private void refuseRates() {
        for (int rate : new int[] {99, 4001, -100, LEAST, MOST}) {
            noArgument("the rate " + rate, house -> house.setRate(rate, 100));
        }
        for (int room : new int[] {-1, 8001, LEAST, MOST}) {
            noArgument("the room " + room, house -> house.setRate(100, room));
        }
    }

    private void refuseFrames() {
        for (int frame : new int[] {-1, 2, 8, LEAST, MOST}) {
            String of = " of the frame " + frame;
            noPlace("frameBits" + of, house -> house.frameBits(frame));
            noPlace("frameBit" + of, house -> house.frameBit(frame, 0));
            noPlace("frameBit and no bit" + of, house -> house.frameBit(frame, -1));
            noPlace("step" + of, house -> house.step(frame, 0, 0));
            noPlace("step and no band" + of, house -> house.step(frame, 0, 5));
            noPlace("noise" + of, house -> house.noise(frame, 0, 0));
            noPlace("noise and no band" + of, house -> house.noise(frame, 0, 5));
            noPlace("noiseAnew" + of, house -> house.noiseAnew(frame, 0, 0));
            noPlace("noiseAnew and no band" + of, house -> house.noiseAnew(frame, 0, 5));
            noPlace("bookOf" + of, house -> house.bookOf(frame, 0, 0));
            noPlace("bookOf and no band" + of, house -> house.bookOf(frame, 0, 5));
            noPlace("sections" + of, house -> house.sections(frame));
            noPlace("sectionBits" + of, house -> house.sectionBits(frame));
            noPlace("sectionBitsAnew" + of, house -> house.sectionBitsAnew(frame));
            noPlace("reservoir" + of, house -> house.reservoir(frame));
            noPlace("lose" + of, house -> house.lose(frame));
            noPlace("turn" + of, house -> house.turn(frame, 0));
            noPlace("turn and no bit" + of, house -> house.turn(frame, -1));
            noPlace("repair" + of, house -> house.repair(frame));
            noPlace("fault" + of, house -> house.fault(frame, 0));
            noPlace("fault and no depth" + of, house -> house.fault(frame, 2));
            noPlace("preroll" + of, house -> house.preroll(frame));
            noPlace("arrive" + of, house -> house.arrive(frame, 0));
            noPlace("arrive and no time" + of, house -> house.arrive(frame, -1));
        }
        for (int channel : new int[] {-1, 2, LEAST, MOST}) {
            noPlace("step of the channel " + channel, house -> house.step(0, channel, 0));
            noPlace("step of no channel and no band", house -> house.step(0, channel, 5));
            noPlace("noise of the channel " + channel, house -> house.noise(0, channel, -1));
            noPlace("noiseAnew of the channel " + channel, house -> house.noiseAnew(0, channel, -1));
            noPlace("bookOf of the channel " + channel, house -> house.bookOf(0, channel, -1));
        }
    }

    private void refuseLate() {
        for (int delay : new int[] {-1, 101, LEAST, MOST}) {
            noArgument("the delay " + delay, house -> house.played(delay, 0));
        }
        for (int time : new int[] {-1, 2001, LEAST, MOST}) {
            noArgument("played at " + time, house -> house.played(0, time));
        }
        int[][] ranges = {{0, 0}, {5, 5}, {5, 4}, {-1, 3}, {-3, -1}, {0, 65}, {64, 65}, {LEAST, MOST}, {MOST, LEAST}, {0, MOST}, {LEAST, 1}};
        for (int[] range : ranges) {
            noArgument("keep from " + range[0] + " to " + range[1], house -> house.keep(range[0], range[1]));
        }
        for (int channel : new int[] {-1, 2, LEAST, MOST}) {
            noPlace("edited of the channel " + channel, house -> house.edited(channel, 0));
            noPlace("edited of no channel and no index", house -> house.edited(channel, -1));
        }
        for (int index : new int[] {-1, 3000, LEAST, MOST}) {
            noElement("edited at " + index, house -> house.edited(0, index));
        }
    }

    private void refuseLoudness() {
        for (int channel : new int[] {-1, 2, LEAST, MOST}) {
            noPlace("peak of the channel " + channel, house -> house.peak(channel));
            noPlace("truePeak of the channel " + channel, house -> house.truePeak(channel));
            noPlace("loudness of the channel " + channel, house -> house.loudness(channel));
        }
        for (int level : new int[] {0, 32768, -1, LEAST, MOST}) {
            noArgument("limit to " + level, house -> house.limit(level));
        }
    }

    private void refuseOfNothing() {
        noElement("code", house -> house.code());
        noPlace("sample", house -> house.sample(0, 0));
        noPlace("setSample", house -> house.setSample(0, 0, 0));
        noPlace("order", house -> house.order(0, 0, false));
        noPlace("bitOf", house -> house.bitOf(0, 0));
        noPlace("line", house -> house.line(0, 0));
        noPlace("mask and no band", house -> house.mask(0, 0, 9));
        noArgument("keep", house -> house.keep(0, 1));
        noElement("edited", house -> house.edited(0, 0));
        refused("ratio", ArithmeticException.class, house -> house.ratio());
        refuseUncoded();
    }

    private void refuseUncoded() {
        noElement("decoded", house -> house.decoded(0, 0));
        noElement("decoded of no channel", house -> house.decoded(2, 0));
        noElement("decoded of no index", house -> house.decoded(0, -1));
        noElement("error", house -> house.error(0));
        noElement("error of no channel", house -> house.error(-1));
        noElement("leastDelay", house -> house.leastDelay());
        noPlace("lose", house -> house.lose(0));
        noPlace("turn", house -> house.turn(0, 0));
        noPlace("repair", house -> house.repair(0));
        noPlace("arrive", house -> house.arrive(0, 0));
        noPlace("preroll", house -> house.preroll(0));
        noPlace("frameBits", house -> house.frameBits(0));
        refused("meanNoise", ArithmeticException.class, house -> house.meanNoise());
    }

    private void refuseOfSamples() {
        refuseUncoded();
        noArgument("setSample out of range", house -> house.setSample(0, 39, 32768));
        noArgument("setSample out of range", house -> house.setSample(1, 32, -32769));
        noPlace("setSample of the shorter one", house -> house.setSample(1, 33, 0));
        for (int band : new int[] {-1, 3, LEAST, MOST}) {
            noArgument("strength of the band " + band, house -> house.strength(1, 1, band));
            noArgument("mask of the band " + band, house -> house.mask(0, 0, band));
        }
        for (int index : new int[] {-1, 5000, LEAST, MOST}) {
            noElement("bitOf at " + index, house -> house.bitOf(1, index));
        }
        noElement("bitOf behind the last", house -> house.bitOf(0, house.pairBits(0)));
        noElement("edited behind the last", house -> house.edited(1, 3));
    }

    private void refuseOfFrames() {
        noArgument("setSample out of range", house -> house.setSample(0, 0, 32768));
        for (int band : new int[] {-1, 3, LEAST, MOST}) {
            noArgument("step of the band " + band, house -> house.step(1, 1, band));
            noArgument("noise of the band " + band, house -> house.noise(0, 0, band));
            noArgument("noiseAnew of the band " + band, house -> house.noiseAnew(0, 0, band));
            noArgument("bookOf of the band " + band, house -> house.bookOf(0, 0, band));
        }
        for (int index : new int[] {-1, 5000, LEAST, MOST}) {
            noElement("frameBit at " + index, house -> house.frameBit(0, index));
            noElement("turn at " + index, house -> house.turn(1, index));
        }
        noElement("frameBit behind the last", house -> house.frameBit(1, house.frameBits(1)));
        noElement("turn behind the last", house -> house.turn(1, house.frameBits(1)));
        for (int depth : new int[] {-1, 0, 1, 2, LEAST, MOST}) {
            noElement("fault of a whole one at " + depth, house -> house.fault(0, depth));
        }
        for (int time : new int[] {-1, 1001, LEAST, MOST}) {
            noArgument("arrive at " + time, house -> house.arrive(1, time));
        }
        for (int index : new int[] {-1, 64, LEAST, MOST}) {
            noPlace("decoded at " + index, house -> house.decoded(0, index));
        }
        for (int channel : new int[] {-1, 2, LEAST, MOST}) {
            noPlace("decoded of the channel " + channel, house -> house.decoded(channel, 0));
            noPlace("error of the channel " + channel, house -> house.error(channel));
        }
    }

    private void refuseOfLostFrames() {
        refused("turn of a lost one", UnsupportedOperationException.class, house -> house.turn(0, 0));
        noElement("turn of a lost one and no bit", house -> house.turn(0, -1));
        refused("noiseAnew of a lost one", UnsupportedOperationException.class, house -> house.noiseAnew(0, 0, 0));
        refused("noiseAnew of one that is not whole", UnsupportedOperationException.class, house -> house.noiseAnew(1, 1, 2));
        noArgument("noiseAnew of a lost one and no band", house -> house.noiseAnew(0, 0, 3));
        for (int depth : new int[] {-1, 2, LEAST, MOST}) {
            noElement("fault of a lost one at " + depth, house -> house.fault(0, depth));
            noElement("fault of one that is not whole at " + depth, house -> house.fault(1, depth));
        }
        refused("a ninth edit", IllegalStateException.class, house -> house.keep(0, 64));
        noArgument("a ninth edit that is empty", house -> house.keep(7, 7));
        noElement("edited behind the last", house -> house.edited(0, 3 + 1 + 2 + 3 + 4 + 5 + 6 + 7));
    }

    private void refuseOfFull() {
        refused("one more", IllegalStateException.class, house -> house.shape(0, 'z', 0, 2, 1));
        refused("many more", IllegalStateException.class, house -> house.shape(0, 'n', 16000, 64, 64));
        noArgument("one more of no shape", house -> house.shape(0, 'x', 0, 2, 1));
        noArgument("65 more", house -> house.shape(0, 'z', 0, 2, 65));
        noPlace("sample 256", house -> house.sample(1, 256));
        noPlace("setSample 256", house -> house.setSample(0, 256, 0));
        noPlace("setSample 65", house -> house.setSample(1, 65, 0));
        noPlace("line 256", house -> house.line(1, 256));
        noPlace("decoded 256", house -> house.decoded(1, 256));
        noPlace("isStereo 8", house -> house.isStereo(8));
        noPlace("frameBits 8", house -> house.frameBits(8));
        noPlace("arrive 8", house -> house.arrive(8, 0));
        noArgument("keep to 257", house -> house.keep(0, 257));
    }
}
