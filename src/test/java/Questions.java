import java.util.ArrayList;
import java.util.List;
import java.util.function.Supplier;

/** All that can be asked of an object, so that two of them can be told apart if anything in them differs. */
final class Questions {
    interface Question {
        Object of(Maskingtone house);
    }

    /** An object answers 512 calls, some of which it took to make it what it is. */
    private static final int CALLS = 250;
    private final List<Question> looking = new ArrayList<>();

    Questions(int blocks) {
        askOfAll();
        for (int channel = 0; channel < 2; channel++) {
            askOfSamples(channel, 32 * blocks);
        }
        for (int block = 0; block <= blocks; block++) {
            askOfBlock(block);
            askOfFrame(block);
        }
        for (int book = 0; book < 3; book++) {
            for (int symbol = 0; symbol < 8; symbol++) {
                int own = book;
                int each = symbol;
                looking.add(house -> house.codeOf(own, each));
                looking.add(house -> house.lengthOf(own, each));
            }
        }
    }

    private void askOfAll() {
        looking.add(Maskingtone::blocks);
        looking.add(Maskingtone::frames);
        looking.add(Maskingtone::allBits);
        looking.add(Maskingtone::leastDelay);
        looking.add(Maskingtone::ratio);
        looking.add(Maskingtone::meanNoise);
        looking.add(Maskingtone::isSound);
        for (int time = 0; time < 60; time++) {
            int at = time;
            looking.add(house -> house.played(at % 7, at));
        }
    }

    private void askOfSamples(int channel, int places) {
        looking.add(house -> house.samples(channel));
        looking.add(house -> house.peak(channel));
        looking.add(house -> house.truePeak(channel));
        looking.add(house -> house.loudness(channel));
        looking.add(house -> house.error(channel));
        for (int i = 0; i < places; i++) {
            int index = i;
            looking.add(house -> house.sample(channel, index));
            looking.add(house -> house.returned(channel, index));
            looking.add(house -> house.line(channel, index));
            looking.add(house -> house.decoded(channel, index));
            looking.add(house -> house.edited(channel, index));
        }
        looking.add(house -> house.lineAnew(channel, places - 1));
    }

    private void askOfBlock(int block) {
        looking.add(house -> house.isStereo(block));
        looking.add(house -> house.pairBits(block));
        for (int i = 0; i < 64; i++) {
            int index = i;
            looking.add(house -> house.bitOf(block, index));
        }
        for (int i = 0; i < 4; i++) {
            int channel = i % 2;
            boolean isSide = i > 1;
            looking.add(house -> house.order(channel, block, isSide));
            looking.add(house -> house.parameter(channel, block, isSide));
            looking.add(house -> house.residual(channel, block, isSide, 31));
        }
        for (int i = 0; i < 10; i++) {
            int channel = i / 5;
            int band = i % 5;
            looking.add(house -> house.strength(channel, block, band));
            looking.add(house -> house.mask(channel, block, band));
        }
    }

    private void askOfFrame(int frame) {
        looking.add(house -> house.frameBits(frame));
        looking.add(house -> house.sections(frame));
        looking.add(house -> house.sectionBits(frame));
        looking.add(house -> house.sectionBitsAnew(frame));
        looking.add(house -> house.reservoir(frame));
        looking.add(house -> house.fault(frame, 1));
        looking.add(house -> house.preroll(frame));
        for (int i = 0; i < 10; i++) {
            int channel = i / 5;
            int band = i % 5;
            looking.add(house -> house.step(frame, channel, band));
            looking.add(house -> house.noise(frame, channel, band));
            looking.add(house -> house.noiseAnew(frame, channel, band));
            looking.add(house -> house.bookOf(frame, channel, band));
        }
        for (int i = 0; i < 200; i++) {
            int index = i;
            looking.add(house -> house.frameBit(frame, index));
        }
    }

    private static Object answer(Question question, Maskingtone house) {
        try {
            return question.of(house);
        } catch (RuntimeException e) {
            return e.getClass().getSimpleName();
        }
    }

    /** The answers to all questions, and what an object says when all that is set is set anew. */
    String answers(Supplier<Maskingtone> made) {
        StringBuilder text = new StringBuilder();
        Maskingtone house = null;
        for (int i = 0; i < looking.size(); i++) {
            house = i % CALLS == 0 ? made.get() : house;
            text.append(answer(looking.get(i), house)).append(' ');
        }
        return text + settings(made.get()) + room(made.get()) + arrivals(made.get());
    }

    private static String settings(Maskingtone house) {
        StringBuilder text = new StringBuilder();
        text.append(house.dropEdits()).append(' ').append(house.setLevels(1)).append(' ').append(house.setNoise(true)).append(' ');
        text.append(house.setRate(100, 0)).append(' ');
        for (int band = 0; band < 5; band++) {
            text.append(house.setQuiet(band, 0)).append(' ');
        }
        return text.append(house.clear()).append(' ').toString();
    }

    /** What there is of the rate and the room is told by what silence leaves. */
    private static String room(Maskingtone house) {
        StringBuilder text = new StringBuilder();
        house.clear();
        for (int i = 0; i < 4; i++) {
            house.shape(0, 'z', 0, 2, 64);
        }
        text.append(house.code()).append(' ');
        for (int frame = 0; frame < 8; frame++) {
            text.append(house.reservoir(frame)).append(' ');
        }
        return text.toString();
    }

    private static String arrivals(Maskingtone house) {
        return answer(each -> each.arrive(0, 1000), house) + " " + answer(Maskingtone::leastDelay, house) + " " + answer(each -> each.repair(0), house);
    }
}
