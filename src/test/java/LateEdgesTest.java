/** The edges in the promises 47 to 52: late frames and edits. */
public final class LateEdgesTest {
    private static final Check CHECK = new Check();

    public static void main(String[] args) {
        testTimes();
        testArriveAgain();
        testArriveFrames();
        testBeginsAndEnds();
        testInTime();
        testPlayedRange();
        testNoneDue();
        testLeastDelay();
        testLeastDelayOfNone();
        testEightEdits();
        testKeepRange();
        testKeepOfNone();
        testDropEdits();
        testEditedPlaces();
        testEditedNow();
        testEditsStay();
        CHECK.end();
    }

    private static Maskingtone coded(int blocks) {
        Maskingtone house = new Maskingtone();
        for (int i = 0; i < blocks; i++) {
            house.shape(0, 't', 640, 64, 32);
        }
        house.code();
        return house;
    }

    private static void testTimes() {
        Document.says(CHECK, "- `time`: the time, 0 to 1000");
        Maskingtone house = coded(2);
        CHECK.due("the least", house.arrive(0, 0), 1);
        CHECK.due("the greatest", house.arrive(1, 1000), 2);
        CHECK.due("leastDelay", house.leastDelay(), 990);
        for (int time : new int[] {-1, 1001, Integer.MIN_VALUE, Integer.MAX_VALUE}) {
            CHECK.noArgument("a time of " + time, () -> house.arrive(1, time));
            CHECK.noPlace("no frame, a time of " + time, () -> house.arrive(2, time));
        }
        CHECK.due("leastDelay as it was", house.leastDelay(), 990);
    }

    private static void testArriveAgain() {
        Document.says(CHECK, "Tells when a frame arrives, in place of an earlier telling.");
        Document.says(CHECK, "Returns how many have arrived.");
        Maskingtone house = coded(8);
        for (int frame = 7; frame >= 0; frame--) {
            CHECK.due("one more", house.arrive(frame, 500), 8 - frame);
            CHECK.due("the same again", house.arrive(frame, 500), 8 - frame);
            CHECK.due("later", house.arrive(frame, 600), 8 - frame);
            CHECK.due("earlier", house.arrive(frame, 0), 8 - frame);
        }
        CHECK.due("the earliest", house.leastDelay(), 0);
        house.arrive(3, 31);
        CHECK.due("one is late", house.leastDelay(), 1);
        house.arrive(3, 30);
        CHECK.due("none is late", house.leastDelay(), 0);
    }

    private static void testArriveFrames() {
        Maskingtone house = new Maskingtone();
        CHECK.noPlace("of none", () -> house.arrive(0, 0));
        house.shape(1, 'z', 0, 2, 33);
        CHECK.noPlace("of none coded", () -> house.arrive(0, 0));
        house.code();
        for (int frame : new int[] {-1, 2, 8, Integer.MIN_VALUE, Integer.MAX_VALUE}) {
            CHECK.noPlace("the frame " + frame, () -> house.arrive(frame, 0));
        }
        CHECK.noElement("none has arrived", () -> house.leastDelay());
        house.lose(1);
        CHECK.due("a lost one", house.arrive(1, 0), 1);
        CHECK.due("the first one", house.arrive(0, 0), 2);
    }

    private static void testBeginsAndEnds() {
        Document.says(CHECK, "if the frame f is played at 10 f plus the delay, for 10 units.");
        Maskingtone house = coded(8);
        for (int frame = 0; frame < 8; frame++) {
            house.arrive(frame, 0);
        }
        for (int delay : new int[] {0, 1, 9, 10, 100}) {
            CHECK.due("ahead of the first", delay == 0 ? -1 : house.played(delay, delay - 1), -1);
            for (int frame = 0; frame < 8; frame++) {
                CHECK.due("its beginning", house.played(delay, 10 * frame + delay), frame);
                CHECK.due("its end", house.played(delay, 10 * frame + delay + 9), frame);
            }
            CHECK.due("behind the last", house.played(delay, 80 + delay), -1);
        }
    }

    private static void testInTime() {
        Document.says(CHECK, "-2 if the one that is due has not arrived when its playing begins.");
        Maskingtone house = coded(3);
        CHECK.due("never", house.played(0, 0), -2);
        house.arrive(1, 17);
        CHECK.due("as it begins", house.played(7, 17), 1);
        CHECK.due("as it begins, at its end", house.played(7, 26), 1);
        CHECK.due("one too late", house.played(6, 16), -2);
        CHECK.due("it has arrived since, but too late", house.played(6, 25), -2);
        CHECK.due("long ahead", house.played(100, 110), 1);
        CHECK.due("the one ahead, never", house.played(7, 16), -2);
        CHECK.due("the one behind, never", house.played(7, 27), -2);
        house.arrive(0, 0);
        CHECK.due("as the first begins", house.played(0, 0), 0);
        house.arrive(0, 1);
        CHECK.due("one too late", house.played(0, 9), -2);
        CHECK.due("with a delay of one", house.played(1, 1), 0);
        house.arrive(2, 1000);
        CHECK.due("far too late", house.played(100, 120), -2);
    }

    private static void testPlayedRange() {
        Document.says(CHECK, "- `delay`: the delay, 0 to 100");
        Document.says(CHECK, "- `time`: the time, 0 to 2000");
        Maskingtone house = coded(8);
        house.arrive(7, 100);
        CHECK.due("the least", house.played(0, 0), -2);
        CHECK.due("the greatest delay", house.played(100, 170), 7);
        CHECK.due("the greatest time", house.played(0, 2000), -1);
        CHECK.due("the greatest of both", house.played(100, 2000), -1);
        for (int delay : new int[] {-1, 101, Integer.MIN_VALUE, Integer.MAX_VALUE}) {
            CHECK.noArgument("a delay of " + delay, () -> house.played(delay, 0));
        }
        for (int time : new int[] {-1, 2001, Integer.MIN_VALUE, Integer.MAX_VALUE}) {
            CHECK.noArgument("a time of " + time, () -> house.played(0, time));
        }
    }

    private static void testNoneDue() {
        Document.says(CHECK, "Returns the frame, -1 if none is due");
        Maskingtone house = new Maskingtone();
        CHECK.due("of none", house.played(0, 0), -1);
        CHECK.noArgument("of none, out of range", () -> house.played(101, 0));
        house.shape(0, 'z', 0, 2, 32);
        CHECK.due("of none coded", house.played(0, 0), -1);
        house.code();
        CHECK.due("of one that has not arrived", house.played(0, 9), -2);
        CHECK.due("behind it", house.played(0, 10), -1);
        CHECK.due("ahead of it", house.played(1, 0), -1);
    }

    private static void testLeastDelay() {
        Document.says(CHECK, "Returns the least delay, 0 at least, with which all frames that arrive do so in time.");
        Maskingtone house = coded(8);
        house.arrive(7, 0);
        CHECK.due("long ahead", house.leastDelay(), 0);
        house.arrive(7, 70);
        CHECK.due("just in time", house.leastDelay(), 0);
        house.arrive(7, 71);
        CHECK.due("one late", house.leastDelay(), 1);
        house.arrive(0, 1);
        CHECK.due("as late", house.leastDelay(), 1);
        house.arrive(0, 3);
        CHECK.due("later", house.leastDelay(), 3);
        house.arrive(3, 32);
        CHECK.due("less late", house.leastDelay(), 3);
        CHECK.due("with it all are in time", house.played(3, 3) + house.played(3, 33) + house.played(3, 73), 10);
        CHECK.due("with less one is late", house.played(2, 2), -2);
        house.arrive(0, 1000);
        CHECK.due("the latest of all", house.leastDelay(), 1000);
    }

    private static void testLeastDelayOfNone() {
        Document.says(CHECK, "Throws `NoSuchElementException` if none has arrived");
        Maskingtone house = new Maskingtone();
        CHECK.noElement("of none", () -> house.leastDelay());
        house.shape(0, 'z', 0, 2, 1);
        house.code();
        CHECK.noElement("none has arrived", () -> house.leastDelay());
        house.arrive(0, 0);
        CHECK.due("one has", house.leastDelay(), 0);
        house.code();
        CHECK.due("coding takes nothing away", house.leastDelay(), 0);
        house.setNoise(false);
        CHECK.noElement("taken away", () -> house.leastDelay());
        house.code();
        CHECK.noElement("taken away", () -> house.leastDelay());
    }

    private static void testEightEdits() {
        Document.says(CHECK, "Throws `IllegalStateException` if there are 8 edits");
        Maskingtone house = coded(8);
        for (int i = 1; i <= 8; i++) {
            CHECK.due("the edit " + i, house.keep(0, 256), 256 * i);
        }
        CHECK.noState("a ninth", () -> house.keep(0, 1));
        CHECK.noArgument("a ninth that is empty", () -> house.keep(1, 1));
        CHECK.noArgument("a ninth that is turned", () -> house.keep(2, 1));
        CHECK.noArgument("a ninth not within", () -> house.keep(0, 257));
        CHECK.due("the last of all", house.edited(0, 2047), house.sample(0, 255));
        CHECK.noElement("behind it", () -> house.edited(0, 2048));
        CHECK.due("how many there were", house.dropEdits(), 8);
        CHECK.due("room again", house.keep(255, 256), 1);
    }

    private static void testKeepRange() {
        Document.says(CHECK, "Throws `IllegalArgumentException` if the range is empty, turned, or not within all samples of the blocks");
        Maskingtone house = new Maskingtone();
        house.shape(1, 'q', 5, 64, 33);
        int[][] wrong = {{0, 0}, {1, 1}, {64, 64}, {1, 0}, {64, 63}, {64, 0}, {-1, 1}, {-1, 0}, {-2, -1}, {0, 65}, {63, 65}, {64, 65}, {65, 66},
            {Integer.MIN_VALUE, 1}, {0, Integer.MAX_VALUE}, {Integer.MIN_VALUE, Integer.MAX_VALUE}, {Integer.MAX_VALUE, Integer.MIN_VALUE}};
        for (int[] range : wrong) {
            CHECK.noArgument("from " + range[0] + " to " + range[1], () -> house.keep(range[0], range[1]));
        }
        CHECK.due("none was kept", house.dropEdits(), 0);
        CHECK.due("the first one", house.keep(0, 1), 1);
        CHECK.due("the last one", house.keep(63, 64), 2);
        CHECK.due("all of them", house.keep(0, 64), 66);
        CHECK.due("behind the last sample", house.edited(1, 1), 0);
        CHECK.due("the first sample", house.edited(1, 0), 5);
    }

    private static void testKeepOfNone() {
        Maskingtone house = new Maskingtone();
        CHECK.noArgument("of none", () -> house.keep(0, 1));
        CHECK.noArgument("of none, empty", () -> house.keep(0, 0));
        CHECK.noElement("edited", () -> house.edited(0, 0));
        CHECK.noPlace("edited of no channel", () -> house.edited(2, 0));
    }

    private static void testDropEdits() {
        Document.says(CHECK, "Takes all edits away.");
        Maskingtone house = coded(1);
        CHECK.due("of none", house.dropEdits(), 0);
        house.keep(0, 32);
        house.keep(4, 5);
        CHECK.due("of two", house.dropEdits(), 2);
        CHECK.noElement("edited", () -> house.edited(0, 0));
        CHECK.due("of none again", house.dropEdits(), 0);
        CHECK.due("the first one anew", house.keep(7, 9), 2);
        CHECK.due("none of those before", house.edited(0, 0), house.sample(0, 7));
        CHECK.due("samples stay", house.samples(0), 32);
    }

    private static void testEditedPlaces() {
        Document.says(CHECK, "Throws `NoSuchElementException` if the edits have no such sample");
        Maskingtone house = new Maskingtone();
        house.shape(0, 't', 640, 64, 40);
        house.shape(1, 'q', 7, 64, 3);
        house.keep(38, 42);
        house.keep(0, 1);
        house.keep(38, 39);
        int[] places = {38, 39, 40, 41, 0, 38};
        for (int i = 0; i < places.length; i++) {
            CHECK.due("edited " + i, house.edited(0, i), house.sample(0, places[i]));
            CHECK.due("edited " + i + " of the channel 1", house.edited(1, i), house.sample(1, places[i]));
        }
        CHECK.due("behind the last sample", house.edited(0, 2), 0);
        for (int index : new int[] {-1, 6, 7, Integer.MIN_VALUE, Integer.MAX_VALUE}) {
            CHECK.noElement("the index " + index, () -> house.edited(0, index));
        }
        for (int channel : new int[] {-1, 2, Integer.MIN_VALUE, Integer.MAX_VALUE}) {
            CHECK.noPlace("the channel " + channel, () -> house.edited(channel, 0));
            CHECK.noPlace("no channel, no index", () -> house.edited(channel, 6));
        }
    }

    private static void testEditedNow() {
        Document.says(CHECK, "Returns a sample of the edits, as it is in the channel now, not as it is decoded.");
        Maskingtone house = coded(1);
        house.keep(5, 6);
        house.lose(0);
        CHECK.due("decoded", house.decoded(0, 5), 0);
        CHECK.due("as it is in the channel", house.edited(0, 0), house.sample(0, 5));
        house.setSample(0, 5, -9);
        CHECK.due("as it was set", house.edited(0, 0), -9);
        house.limit(1);
        CHECK.due("as it was made smaller", house.edited(0, 0), house.sample(0, 5));
        house.shape(1, 'q', 4, 64, 6);
        CHECK.due("as it was put in", house.edited(1, 0), 4);
        house.add(1, 0, 0);
        CHECK.due("as it is", house.edited(1, 0), 4);
    }

    private static void testEditsStay() {
        Maskingtone house = coded(1);
        house.keep(0, 3);
        house.shape(0, 'z', 0, 2, 64);
        house.setLevels(1);
        house.setRate(100, 0);
        house.code();
        CHECK.due("until they are taken away", house.edited(0, 2), -600);
        CHECK.due("more are behind them", house.keep(31, 33), 5);
        CHECK.due("in what was put in since", house.edited(0, 4), 0);
        CHECK.due("frames stay, too", house.frames(), 3);
        house.dropEdits();
        CHECK.due("frames stay, too", house.frames(), 3);
    }
}
