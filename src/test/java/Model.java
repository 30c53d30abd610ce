import java.util.ArrayList;
import java.util.Arrays;
import java.util.HashMap;
import java.util.List;
import java.util.Map;
import java.util.NoSuchElementException;

/**
 * A second program for the same document, as plain as can be: bits are texts, partings are all looked at, and
 * everything is found anew for each call. It shares nothing with the program that it is compared with.
 */
final class Model {
    private final List<List<Integer>> samples = List.of(new ArrayList<>(), new ArrayList<>());
    private final List<int[]> edits = new ArrayList<>();
    private final int[] quiet = {2, 2, 2, 2, 2};
    private final int[][] lengths = {{1, 2, 3, 4, 5, 6, 7, 7}, {3, 3, 3, 3, 3, 3, 3, 3}, {2, 2, 2, 4, 4, 4, 5, 5}};
    private int levels = 3;
    private int rate = 4000;
    private int room = 2000;
    private boolean may;
    private List<Sent> sent = new ArrayList<>();
    private Map<Integer, Integer> arrived = new HashMap<>();

    /** A frame as it was coded, and as it is. */
    private static final class Sent {
        long[][] lines;
        boolean[] isNoise;
        int[] steps;
        long[] strengths;
        long[] noises;
        Sections sections;
        long left;
        long allowed;
        String bits;
        String now;
        boolean isLost;
    }

    private static final class Sections {
        List<int[]> parts = new ArrayList<>();
        long bits;

        /** The longest first section wins, then the lower book, and so on. */
        boolean isBefore(Sections other) {
            if (bits != other.bits) {
                return bits < other.bits;
            }
            for (int i = 0; i < Math.min(parts.size(), other.parts.size()); i++) {
                if (parts.get(i)[0] != other.parts.get(i)[0]) {
                    return parts.get(i)[0] > other.parts.get(i)[0];
                }
                if (parts.get(i)[1] != other.parts.get(i)[1]) {
                    return parts.get(i)[1] < other.parts.get(i)[1];
                }
            }
            return false;
        }

        int bookOf(int row) {
            int place = row;
            for (int[] part : parts) {
                if (place < part[0]) {
                    return part[1];
                }
                place -= part[0];
            }
            throw new AssertionError("no section");
        }
    }

    private record Block(int order, int parameter, long[] residuals, String bits) {
    }

    // ---- samples

    int shape(int channel, char shape, int amplitude, int period, int count) {
        channelOrThrow(channel);
        argument("qtizn".indexOf(shape) >= 0);
        argument(amplitude >= 0 && amplitude <= 16000);
        argument(period >= 2 && period <= 64);
        argument(count >= 1 && count <= 64);
        List<Integer> own = samples.get(channel);
        if (own.size() + count > 256) {
            throw new IllegalStateException();
        }
        long state = period * 7919L;
        for (int i = 0; i < count; i++) {
            state = next(state);
            long value = switch (shape) {
                case 'q' -> i % period < period / 2 ? amplitude : -amplitude;
                case 't' -> (long) 2 * amplitude * (i % period) / period - amplitude;
                case 'i' -> i % period == 0 ? amplitude : 0;
                case 'n' -> (state >> 8) % (2L * amplitude + 1) - amplitude;
                default -> 0;
            };
            own.add((int) value);
        }
        takeAway();
        return own.size();
    }

    private static long next(long state) {
        return (state * 1103515245L + 12345L) & 0x7fffffffL;
    }

    int add(int channel, int shift, int percent) {
        channelOrThrow(channel);
        argument(shift >= 0 && shift <= 64);
        argument(percent >= -100 && percent <= 100);
        List<Integer> own = samples.get(channel);
        List<Integer> other = samples.get(1 - channel);
        int changed = 0;
        for (int i = shift; i < own.size() && i - shift < other.size(); i++) {
            int before = own.get(i);
            own.set(i, (int) clamp(before + (long) other.get(i - shift) * percent / 100));
            changed += own.get(i) != before ? 1 : 0;
        }
        takeAway();
        return changed;
    }

    int setSample(int channel, int index, int value) {
        channelOrThrow(channel);
        place(index >= 0 && index < samples.get(channel).size());
        argument(value >= -32768 && value <= 32767);
        int before = samples.get(channel).set(index, value);
        takeAway();
        return before;
    }

    int clear() {
        int count = samples.get(0).size() + samples.get(1).size();
        samples.get(0).clear();
        samples.get(1).clear();
        edits.clear();
        takeAway();
        return count;
    }

    int samples(int channel) {
        channelOrThrow(channel);
        return samples.get(channel).size();
    }

    int sample(int channel, int index) {
        channelOrThrow(channel);
        place(index >= 0 && index < 32 * blocks());
        return (int) row(channel)[index];
    }

    int blocks() {
        return (Math.max(samples.get(0).size(), samples.get(1).size()) + 31) / 32;
    }

    private long[] row(int channel) {
        long[] row = new long[32 * blocks()];
        for (int i = 0; i < samples.get(channel).size(); i++) {
            row[i] = samples.get(channel).get(i);
        }
        return row;
    }

    // ---- without loss

    private static String binary(long value, int width) {
        StringBuilder text = new StringBuilder();
        for (int i = width - 1; i >= 0; i--) {
            text.append((value >> i) % 2);
        }
        return text.toString();
    }

    private static long toNumber(long value) {
        return value < 0 ? -2 * value - 1 : 2 * value;
    }

    private static long predict(long[] values, int order, int i) {
        return switch (Math.min(order, i)) {
            case 0 -> 0;
            case 1 -> values[i - 1];
            case 2 -> 2 * values[i - 1] - values[i - 2];
            default -> 3 * values[i - 1] - 3 * values[i - 2] + values[i - 3];
        };
    }

    private static Block tell(long[] values) {
        long least = Long.MAX_VALUE;
        int order = -1;
        long[] residuals = null;
        for (int o = 0; o <= 3; o++) {
            long[] tried = new long[32];
            long sum = 0;
            for (int i = 0; i < 32; i++) {
                tried[i] = values[i] - predict(values, o, i);
                sum += Math.abs(tried[i]);
            }
            if (sum < least) {
                least = sum;
                order = o;
                residuals = tried;
            }
        }
        String best = null;
        int parameter = -1;
        for (int k = 14; k >= 0; k--) {
            long length = 0;
            for (long r : residuals) {
                length += (toNumber(r) >> k) + 1 + k;
            }
            if (best == null || length <= best.length()) {
                StringBuilder text = new StringBuilder();
                for (long r : residuals) {
                    text.append("1".repeat((int) (toNumber(r) >> k))).append('0').append(binary(toNumber(r) % (1L << k), k));
                }
                best = text.toString();
                parameter = k;
            }
        }
        return new Block(order, parameter, residuals, binary(order, 2) + binary(parameter, 4) + best);
    }

    private Block block(int channel, int block, boolean isSide) {
        long[] left = Arrays.copyOfRange(row(0), 32 * block, 32 * block + 32);
        long[] right = Arrays.copyOfRange(row(1), 32 * block, 32 * block + 32);
        long[] middle = new long[32];
        long[] side = new long[32];
        for (int i = 0; i < 32; i++) {
            side[i] = left[i] - right[i];
            middle[i] = right[i] + Math.floorDiv(side[i], 2);
        }
        return tell(isSide ? channel == 0 ? middle : side : channel == 0 ? left : right);
    }

    private String pair(int block) {
        String plain = block(0, block, false).bits + block(1, block, false).bits;
        String sided = block(0, block, true).bits + block(1, block, true).bits;
        return sided.length() < plain.length() ? "1" + sided : "0" + plain;
    }

    int order(int channel, int block, boolean isSide) {
        channelOrThrow(channel);
        place(block >= 0 && block < blocks());
        return block(channel, block, isSide).order;
    }

    int parameter(int channel, int block, boolean isSide) {
        channelOrThrow(channel);
        place(block >= 0 && block < blocks());
        return block(channel, block, isSide).parameter;
    }

    int residual(int channel, int block, boolean isSide, int index) {
        channelOrThrow(channel);
        place(block >= 0 && block < blocks());
        place(index >= 0 && index < 32);
        return (int) block(channel, block, isSide).residuals[index];
    }

    boolean isStereo(int block) {
        place(block >= 0 && block < blocks());
        return pair(block).charAt(0) == '1';
    }

    int pairBits(int block) {
        place(block >= 0 && block < blocks());
        return pair(block).length();
    }

    int allBits() {
        int sum = 0;
        for (int i = 0; i < blocks(); i++) {
            sum += pair(i).length();
        }
        return sum;
    }

    int bitOf(int block, int index) {
        place(block >= 0 && block < blocks());
        String bits = pair(block);
        element(index >= 0 && index < bits.length());
        return bits.charAt(index) - '0';
    }

    int returned(int channel, int index) {
        return sample(channel, index);
    }

    // ---- lines and masks

    int setLevels(int given) {
        argument(given >= 1 && given <= 4);
        int before = levels;
        levels = given;
        takeAway();
        return before;
    }

    private static long around(long[] row, int i, int half) {
        int left = i - half;
        int right = i + half;
        if (left < 0) {
            left = right;
        } else if (right >= row.length) {
            right = left;
        }
        return row[left] + row[right];
    }

    private long[] lines(int channel) {
        long[] row = row(channel);
        for (int j = 1; j <= levels; j++) {
            int half = (1 << j) / 2;
            for (int i = 0; i < row.length; i += half) {
                if (i % (1 << j) != 0) {
                    row[i] -= Math.floorDiv(around(row, i, half), 2);
                }
            }
            for (int i = 0; i < row.length; i += half) {
                if (i % (1 << j) == 0) {
                    row[i] += Math.floorDiv(around(row, i, half) + 2, 4);
                }
            }
        }
        return row;
    }

    private long[] turnedBack(long[] given) {
        return turnedBack(given, levels);
    }

    static long[] turnedBack(long[] given, int levels) {
        long[] row = given.clone();
        for (int j = levels; j >= 1; j--) {
            int half = (1 << j) / 2;
            for (int i = 0; i < row.length; i += half) {
                if (i % (1 << j) == 0) {
                    row[i] -= Math.floorDiv(around(row, i, half) + 2, 4);
                }
            }
            for (int i = 0; i < row.length; i += half) {
                if (i % (1 << j) != 0) {
                    row[i] += Math.floorDiv(around(row, i, half), 2);
                }
            }
        }
        return row;
    }

    private int bandAt(int i) {
        if (i == 0) {
            return 0;
        }
        int twos = 0;
        for (int rest = i; rest % 2 == 0; rest /= 2) {
            twos++;
        }
        return Math.max(0, levels - twos);
    }

    private List<Integer> placesOf(int band) {
        List<Integer> places = new ArrayList<>();
        for (int i = 0; i < 32; i++) {
            if (bandAt(i) == band) {
                places.add(i);
            }
        }
        return places;
    }

    private long strengthOf(long[] row, int block, int band) {
        if (block < 0 || 32 * block >= row.length || band < 0 || band > levels) {
            return 0;
        }
        long sum = 0;
        for (int i : placesOf(band)) {
            sum += Math.abs(row[32 * block + i]);
        }
        return sum / placesOf(band).size();
    }

    private long maskOf(long[] row, int block, int band) {
        long[] all = {quiet[band], strengthOf(row, block, band) / 8, strengthOf(row, block, band - 1) / 16,
            strengthOf(row, block, band + 1) / 32, strengthOf(row, block - 1, band) / 32, strengthOf(row, block + 1, band) / 64};
        return Arrays.stream(all).max().getAsLong();
    }

    int line(int channel, int index) {
        channelOrThrow(channel);
        place(index >= 0 && index < 32 * blocks());
        return (int) lines(channel)[index];
    }

    int lineAnew(int channel, int index) {
        return line(channel, index);
    }

    int strength(int channel, int block, int band) {
        channelOrThrow(channel);
        place(block >= 0 && block < blocks());
        argument(band >= 0 && band <= levels);
        return (int) strengthOf(lines(channel), block, band);
    }

    int mask(int channel, int block, int band) {
        channelOrThrow(channel);
        place(block >= 0 && block < blocks());
        argument(band >= 0 && band <= levels);
        return (int) maskOf(lines(channel), block, band);
    }

    int setQuiet(int band, int amount) {
        argument(band >= 0 && band <= 4);
        argument(amount >= 0 && amount <= 1000);
        int before = quiet[band];
        quiet[band] = amount;
        takeAway();
        return before;
    }

    // ---- books

    int setLength(int book, int symbol, int length) {
        place(book >= 0 && book <= 2);
        argument(symbol >= 0 && symbol <= 7);
        argument(length >= 1 && length <= 8);
        int before = lengths[book][symbol];
        lengths[book][symbol] = length;
        int sum = 0;
        for (int each : lengths[book]) {
            sum += 256 >> each;
        }
        if (sum > 256) {
            lengths[book][symbol] = before;
            throw new UnsupportedOperationException();
        }
        takeAway();
        return before;
    }

    private List<String> codes(int book) {
        String[] codes = new String[8];
        List<Integer> order = new ArrayList<>();
        for (int i = 0; i < 8; i++) {
            order.add(i);
        }
        order.sort((a, b) -> lengths[book][a] - lengths[book][b]);
        int code = -1;
        int length = lengths[book][order.get(0)];
        for (int symbol : order) {
            code = (code + 1) << (lengths[book][symbol] - length);
            length = lengths[book][symbol];
            codes[symbol] = binary(code, length);
        }
        return List.of(codes);
    }

    int codeOf(int book, int symbol) {
        place(book >= 0 && book <= 2);
        argument(symbol >= 0 && symbol <= 7);
        return Integer.parseInt(codes(book).get(symbol), 2);
    }

    int lengthOf(int book, int symbol) {
        place(book >= 0 && book <= 2);
        argument(symbol >= 0 && symbol <= 7);
        return lengths[book][symbol];
    }

    // ---- coding

    int setRate(int bits, int most) {
        argument(bits >= 100 && bits <= 4000);
        argument(most >= 0 && most <= 8000);
        int before = rate;
        rate = bits;
        room = most;
        takeAway();
        return before;
    }

    boolean setNoise(boolean given) {
        boolean before = may;
        may = given;
        takeAway();
        return before;
    }

    private static long size(int step) {
        return step % 2 == 0 ? 1L << step / 2 : (1L << step / 2) * 3 / 2;
    }

    private static long told(long line, int step) {
        long amount = (Math.abs(line) + size(step) / 2) / size(step);
        return line < 0 ? -amount : amount;
    }

    private long noiseBy(long[] lines, long[] back, int band) {
        long sum = 0;
        for (int i : placesOf(band)) {
            sum += Math.abs(lines[i] - back[i]);
        }
        int count = placesOf(band).size();
        return sum / count + (sum % count != 0 ? 1 : 0);
    }

    private void fillNoise(long[] back, int band, long strength) {
        long state = 1;
        for (int i : placesOf(band)) {
            state = next(state);
            back[i] = (state >> 8) % (2 * strength + 1) - strength;
        }
    }

    /** Numbers of the lines of a row, by its step number, or all 0 with the step number 99 or as noise. */
    private long[] amounts(Sent frame, int row) {
        int band = row % (levels + 1);
        List<Integer> places = placesOf(band);
        long[] amounts = new long[places.size()];
        for (int i = 0; i < amounts.length && !frame.isNoise[row] && frame.steps[row] != 99; i++) {
            amounts[i] = told(frame.lines[row / (levels + 1)][places.get(i)], frame.steps[row]);
        }
        return amounts;
    }

    private String codesOf(long[] amounts, int book) {
        StringBuilder text = new StringBuilder();
        for (long amount : amounts) {
            long number = toNumber(amount);
            text.append(codes(book).get((int) Math.min(7, number)));
            if (number >= 7) {
                text.append(binary(number - 7, 18));
            }
        }
        return text.toString();
    }

    /** All partings of all rows, tried one by one. */
    private Sections parted(Sent frame) {
        int rows = 2 * (levels + 1);
        long[][] costs = new long[rows][3];
        for (int row = 0; row < rows; row++) {
            for (int book = 0; book < 3; book++) {
                for (long amount : amounts(frame, row)) {
                    long number = toNumber(amount);
                    costs[row][book] += lengths[book][(int) Math.min(7, number)] + (number >= 7 ? 18 : 0);
                }
            }
        }
        Sections best = null;
        for (int cuts = 0; cuts < 1 << rows - 1; cuts++) {
            Sections tried = partedBy(costs, cuts);
            if (tried != null && (best == null || tried.isBefore(best))) {
                best = tried;
            }
        }
        return best;
    }

    private static Sections partedBy(long[][] costs, int cuts) {
        Sections parting = new Sections();
        int start = 0;
        for (int row = 0; row < costs.length; row++) {
            if (row + 1 < costs.length && (cuts >> row) % 2 == 0) {
                continue;
            }
            long[] sums = new long[3];
            for (int i = start; i <= row; i++) {
                for (int book = 0; book < 3; book++) {
                    sums[book] += costs[i][book];
                }
            }
            int best = sums[1] < sums[0] ? 1 : 0;
            best = sums[2] < sums[best] ? 2 : best;
            if (row + 1 - start > 8) {
                return null;
            }
            parting.parts.add(new int[] {row + 1 - start, best});
            parting.bits += 5 + sums[best];
            start = row + 1;
        }
        return parting;
    }

    private String write(Sent frame, int number) {
        StringBuilder text = new StringBuilder(binary(167, 8) + binary(number, 8));
        for (int row = 0; row < frame.steps.length; row++) {
            if (frame.isNoise[row]) {
                text.append('1').append(binary(frame.strengths[row], 15));
            } else {
                text.append('0').append(binary(Math.min(15, frame.steps[row]), 4));
            }
        }
        int row = 0;
        for (int[] part : frame.sections.parts) {
            text.append(binary(part[1], 2)).append(binary(part[0] - 1, 3));
            for (int i = 0; i < part[0]; i++) {
                text.append(codesOf(amounts(frame, row++), part[1]));
            }
        }
        return text + binary(check(text), 8);
    }

    private static long check(CharSequence bits) {
        long sum = 0;
        for (int i = 0; i < bits.length(); i++) {
            sum += bits.charAt(i) == '1' ? (i + 1) % 251 : 0;
        }
        return sum % 256;
    }

    private Sent coded(int number) {
        int rows = 2 * (levels + 1);
        Sent frame = new Sent();
        frame.lines = new long[2][];
        frame.isNoise = new boolean[rows];
        frame.steps = new int[rows];
        frame.strengths = new long[rows];
        frame.noises = new long[rows];
        for (int channel = 0; channel < 2; channel++) {
            long[] all = lines(channel);
            frame.lines[channel] = Arrays.copyOfRange(all, 32 * number, 32 * number + 32);
            for (int band = 0; band <= levels; band++) {
                int row = channel * (levels + 1) + band;
                long strength = strengthOf(all, number, band);
                long greatest = 0;
                for (int i : placesOf(band)) {
                    greatest = Math.max(greatest, Math.abs(frame.lines[channel][i]));
                }
                if (may && band >= 2 && greatest <= 2 * strength && strength != 0) {
                    frame.isNoise[row] = true;
                    frame.strengths[row] = Math.min(32767, strength);
                    frame.steps[row] = -1;
                } else {
                    frame.steps[row] = greatestStep(frame.lines[channel], band, maskOf(all, number, band));
                }
            }
        }
        return frame;
    }

    private int greatestStep(long[] lines, int band, long mask) {
        int found = 0;
        for (int step = 0; step <= 15; step++) {
            long[] back = new long[32];
            for (int i = 0; i < 32; i++) {
                back[i] = told(lines[i], step) * size(step);
            }
            found = noiseBy(lines, back, band) <= mask ? step : found;
        }
        return found;
    }

    private boolean shrink(Sent frame) {
        int found = -1;
        long most = -1;
        for (int row = 0; row < frame.steps.length; row++) {
            long bits = codesOf(amounts(frame, row), frame.sections.bookOf(row)).length();
            if (!frame.isNoise[row] && frame.steps[row] < 15 && bits > most) {
                found = row;
                most = bits;
            }
        }
        if (found >= 0) {
            frame.steps[found]++;
            return true;
        }
        for (int row = frame.steps.length - 1; row >= 0; row--) {
            if (Arrays.stream(amounts(frame, row)).anyMatch(amount -> amount != 0)) {
                frame.steps[row] = 99;
                return true;
            }
        }
        return false;
    }

    private void tellNoises(Sent frame) {
        for (int row = 0; row < frame.steps.length; row++) {
            int band = row % (levels + 1);
            long[] back = new long[32];
            if (frame.isNoise[row]) {
                fillNoise(back, band, frame.strengths[row]);
            } else {
                long[] amounts = amounts(frame, row);
                for (int i = 0; i < amounts.length; i++) {
                    back[placesOf(band).get(i)] = amounts[i] * size(Math.min(15, frame.steps[row]));
                }
            }
            frame.noises[row] = noiseBy(frame.lines[row / (levels + 1)], back, band);
        }
    }

    int code() {
        element(blocks() > 0);
        sent = new ArrayList<>();
        long saved = 0;
        int sum = 0;
        for (int number = 0; number < blocks(); number++) {
            Sent frame = coded(number);
            frame.allowed = rate + saved;
            frame.sections = parted(frame);
            while (write(frame, number).length() > frame.allowed && shrink(frame)) {
                frame.sections = parted(frame);
            }
            tellNoises(frame);
            frame.bits = write(frame, number);
            frame.now = frame.bits;
            saved = Math.min(room, Math.max(0, frame.allowed - frame.bits.length()));
            frame.left = saved;
            sum += frame.bits.length();
            sent.add(frame);
        }
        return sum;
    }

    int frames() {
        return sent.size();
    }

    private Sent frame(int frame) {
        place(frame >= 0 && frame < sent.size());
        return sent.get(frame);
    }

    private int row(int frame, int channel, int band) {
        place(frame >= 0 && frame < sent.size());
        channelOrThrow(channel);
        argument(band >= 0 && band <= levels);
        return channel * (levels + 1) + band;
    }

    int frameBits(int frame) {
        return frame(frame).now.length();
    }

    int frameBit(int frame, int index) {
        String bits = frame(frame).now;
        element(index >= 0 && index < bits.length());
        return bits.charAt(index) - '0';
    }

    int step(int frame, int channel, int band) {
        int row = row(frame, channel, band);
        return Math.min(15, frame(frame).steps[row]);
    }

    int noise(int frame, int channel, int band) {
        int row = row(frame, channel, band);
        return (int) frame(frame).noises[row];
    }

    int noiseAnew(int frame, int channel, int band) {
        row(frame, channel, band);
        if (cause(frame) != 0) {
            throw new UnsupportedOperationException();
        }
        return (int) noiseBy(frame(frame).lines[channel], read(frame(frame).now)[channel], band);
    }

    int sections(int frame) {
        return frame(frame).sections.parts.size();
    }

    int bookOf(int frame, int channel, int band) {
        int row = row(frame, channel, band);
        return frame(frame).sections.bookOf(row);
    }

    int sectionBits(int frame) {
        return (int) frame(frame).sections.bits;
    }

    int sectionBitsAnew(int frame) {
        return (int) frame(frame).sections.bits;
    }

    int reservoir(int frame) {
        return (int) frame(frame).left;
    }

    // ---- losses and coming back

    boolean lose(int frame) {
        boolean was = !frame(frame).isLost;
        frame(frame).isLost = true;
        return was;
    }

    int turn(int frame, int index) {
        Sent own = frame(frame);
        element(index >= 0 && index < own.now.length());
        if (own.isLost) {
            throw new UnsupportedOperationException();
        }
        char turned = own.now.charAt(index) == '0' ? '1' : '0';
        own.now = own.now.substring(0, index) + turned + own.now.substring(index + 1);
        return turned - '0';
    }

    int repair(int frame) {
        frame(frame).isLost = false;
        frame(frame).now = frame(frame).bits;
        int count = 0;
        for (int i = 0; i < sent.size(); i++) {
            count += cause(i) != 0 ? 1 : 0;
        }
        return count;
    }

    private char cause(int number) {
        Sent frame = sent.get(number);
        String bits = frame.now;
        int end = bits.length() - 8;
        if (frame.isLost) {
            return 'l';
        }
        if (!bits.startsWith(binary(167, 8))) {
            return 's';
        }
        if (!bits.startsWith(binary(number, 8), 8)) {
            return 'n';
        }
        if (!bits.endsWith(binary(check(bits.substring(0, end)), 8))) {
            return 'c';
        }
        return read(bits) == null ? 'e' : (char) 0;
    }

    /** Takes bits away from the front of a text, and knows when there were too few. */
    private static final class Tape {
        String rest;
        boolean isShort;

        long take(int width) {
            if (rest.length() < width) {
                isShort = true;
                rest = "";
                return 0;
            }
            String taken = rest.substring(0, width);
            rest = rest.substring(width);
            return width == 0 ? 0 : Long.parseLong(taken, 2);
        }

        int symbol(List<String> codes) {
            for (int i = 0; i < codes.size(); i++) {
                if (rest.startsWith(codes.get(i))) {
                    rest = rest.substring(codes.get(i).length());
                    return i;
                }
            }
            isShort = true;
            return 0;
        }
    }

    /** The lines of both channels that the bits tell, or null if they cannot be read. */
    private long[][] read(String bits) {
        Tape tape = new Tape();
        tape.rest = bits.substring(16, bits.length() - 8);
        int rows = 2 * (levels + 1);
        boolean[] isNoise = new boolean[rows];
        long[] value = new long[rows];
        for (int row = 0; row < rows; row++) {
            isNoise[row] = tape.take(1) == 1;
            value[row] = tape.take(isNoise[row] ? 15 : 4);
        }
        long[][] lines = new long[2][32];
        int left = 0;
        int book = 0;
        for (int row = 0; row < rows; row++) {
            if (left == 0) {
                book = (int) tape.take(2);
                left = (int) tape.take(3) + 1;
                if (tape.isShort || book == 3 || row + left > rows) {
                    return null;
                }
            }
            left--;
            int band = row % (levels + 1);
            for (int i : placesOf(band)) {
                long number = tape.symbol(codes(book));
                number += number == 7 ? tape.take(18) : 0;
                long amount = number % 2 == 0 ? number / 2 : -(number + 1) / 2;
                lines[row / (levels + 1)][i] = isNoise[row] ? 0 : amount * size((int) value[row]);
            }
            if (isNoise[row]) {
                fillNoise(lines[row / (levels + 1)], band, value[row]);
            }
            if (tape.isShort) {
                return null;
            }
        }
        return tape.rest.isEmpty() ? lines : null;
    }

    char fault(int frame, int depth) {
        frame(frame);
        element(cause(frame) != 0 && (depth == 0 || depth == 1));
        return depth == 0 ? 'f' : cause(frame);
    }

    private long[] decodedRow(int channel) {
        long[] all = new long[32 * sent.size()];
        long[] before = new long[32];
        for (int i = 0; i < sent.size(); i++) {
            long[] own = cause(i) == 0 ? read(sent.get(i).now)[channel] : null;
            for (int j = 0; j < 32 && own == null; j++) {
                before[j] = before[j] < 0 ? -(-before[j] / 2) : before[j] / 2;
            }
            before = own == null ? before : own.clone();
            System.arraycopy(before, 0, all, 32 * i, 32);
        }
        return clamped(turnedBack(all));
    }

    private static long[] clamped(long[] row) {
        return Arrays.stream(row).map(Model::clamp).toArray();
    }

    private static long clamp(long value) {
        return value < -32768 ? -32768 : value > 32767 ? 32767 : value;
    }

    int decoded(int channel, int index) {
        element(!sent.isEmpty());
        channelOrThrow(channel);
        place(index >= 0 && index < 32 * blocks());
        return (int) decodedRow(channel)[index];
    }

    private long[] rowFrom(int channel, int first) {
        long[] all = new long[32 * sent.size()];
        for (int i = first; i < sent.size(); i++) {
            System.arraycopy(read(sent.get(i).bits)[channel], 0, all, 32 * i, 32);
        }
        return clamped(turnedBack(all));
    }

    int preroll(int frame) {
        frame(frame);
        int needed = 0;
        for (int channel = 0; channel < 2; channel++) {
            long[] whole = rowFrom(channel, 0);
            long[] late = rowFrom(channel, frame);
            for (int i = 32 * frame; i < whole.length; i++) {
                if (whole[i] != late[i]) {
                    needed = Math.max(needed, i / 32 - frame + 1);
                }
            }
        }
        return needed;
    }

    long error(int channel) {
        element(!sent.isEmpty());
        channelOrThrow(channel);
        long[] own = row(channel);
        long[] back = decodedRow(channel);
        long sum = 0;
        for (int i = 0; i < own.length; i++) {
            sum += Math.abs(own[i] - back[i]);
        }
        return sum;
    }

    // ---- late ones and edits

    int arrive(int frame, int time) {
        frame(frame);
        argument(time >= 0 && time <= 1000);
        arrived.put(frame, time);
        return arrived.size();
    }

    int played(int delay, int time) {
        argument(delay >= 0 && delay <= 100);
        argument(time >= 0 && time <= 2000);
        for (int i = 0; i < sent.size(); i++) {
            int begins = 10 * i + delay;
            if (time >= begins && time < begins + 10) {
                return arrived.containsKey(i) && arrived.get(i) <= begins ? i : -2;
            }
        }
        return -1;
    }

    int leastDelay() {
        element(!arrived.isEmpty());
        for (int delay = 0;; delay++) {
            boolean isEnough = true;
            for (Map.Entry<Integer, Integer> each : arrived.entrySet()) {
                isEnough &= each.getValue() <= 10 * each.getKey() + delay;
            }
            if (isEnough) {
                return delay;
            }
        }
    }

    private List<Integer> editedPlaces() {
        List<Integer> places = new ArrayList<>();
        for (int[] edit : edits) {
            for (int i = edit[0]; i < edit[1]; i++) {
                places.add(i);
            }
        }
        return places;
    }

    int keep(int from, int to) {
        argument(from < to && from >= 0 && to <= 32 * blocks());
        if (edits.size() == 8) {
            throw new IllegalStateException();
        }
        edits.add(new int[] {from, to});
        return editedPlaces().size();
    }

    int dropEdits() {
        int count = edits.size();
        edits.clear();
        return count;
    }

    int edited(int channel, int index) {
        channelOrThrow(channel);
        element(index >= 0 && index < editedPlaces().size());
        return (int) row(channel)[editedPlaces().get(index)];
    }

    // ---- loudness

    int peak(int channel) {
        channelOrThrow(channel);
        return (int) Arrays.stream(row(channel)).map(Math::abs).max().orElse(0);
    }

    int truePeak(int channel) {
        channelOrThrow(channel);
        long[] row = row(channel);
        long most = peak(channel);
        for (int i = 0; i + 1 < row.length; i++) {
            long before = i > 0 ? row[i - 1] : 0;
            long behind = i + 2 < row.length ? row[i + 2] : 0;
            most = Math.max(most, Math.abs(Math.floorDiv(9 * (row[i] + row[i + 1]) - before - behind, 16L)));
        }
        return (int) most;
    }

    long loudness(int channel) {
        channelOrThrow(channel);
        if (blocks() == 0) {
            return 0;
        }
        long[] row = row(channel);
        long[] means = new long[blocks()];
        for (int i = 0; i < row.length; i++) {
            means[i / 32] += row[i] * row[i];
        }
        long sum = 0;
        for (int i = 0; i < means.length; i++) {
            means[i] /= 32;
            sum += means[i];
        }
        long least = sum / means.length / 10;
        long[] loud = Arrays.stream(means).filter(mean -> mean >= least).toArray();
        return Arrays.stream(loud).sum() / loud.length;
    }

    int limit(int level) {
        argument(level >= 1 && level <= 32767);
        int smaller = 0;
        for (List<Integer> own : samples) {
            for (int from = 0; from < own.size(); from += 32) {
                List<Integer> block = own.subList(from, Math.min(own.size(), from + 32));
                int most = 0;
                for (int value : block) {
                    most = Math.max(most, Math.abs(value));
                }
                if (most > level) {
                    smaller++;
                    for (int i = 0; i < block.size(); i++) {
                        block.set(i, (int) ((long) block.get(i) * level / most));
                    }
                }
            }
        }
        takeAway();
        return smaller;
    }

    // ---- figures

    float ratio() {
        if (blocks() == 0) {
            throw new ArithmeticException();
        }
        return (float) allBits() / (float) (16 * 64 * blocks());
    }

    double meanNoise() {
        if (sent.isEmpty()) {
            throw new ArithmeticException();
        }
        long sum = 0;
        long count = 0;
        for (Sent frame : sent) {
            sum += Arrays.stream(frame.noises).sum();
            count += frame.noises.length;
        }
        return (double) sum / (double) count;
    }

    boolean isSound() {
        return true;
    }

    private void takeAway() {
        sent = new ArrayList<>();
        arrived = new HashMap<>();
    }

    private static void channelOrThrow(int channel) {
        place(channel == 0 || channel == 1);
    }

    private static void place(boolean isThere) {
        if (!isThere) {
            throw new IndexOutOfBoundsException();
        }
    }

    private static void argument(boolean isRight) {
        if (!isRight) {
            throw new IllegalArgumentException();
        }
    }

    private static void element(boolean isThere) {
        if (!isThere) {
            throw new NoSuchElementException();
        }
    }
}
