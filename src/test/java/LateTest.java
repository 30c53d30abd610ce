/** Promises 47 to 52: arrive, played, leastDelay, keep, dropEdits, edited. */
public final class LateTest {
    private static final Check CHECK = new Check();

    public static void main(String[] args) {
        testArrive();
        testPlayed();
        testLeastDelay();
        testKeep();
        testKeepWrong();
        testEdited();
        CHECK.end();
    }

    private static Maskingtone house() {
        Maskingtone house = new Maskingtone();
        house.shape(0, 't', 640, 64, 64);
        house.shape(0, 't', 640, 64, 32);
        house.shape(1, 'q', 9, 2, 3);
        return house;
    }

    private static void testArrive() {
        Maskingtone house = house();
        CHECK.noPlace("arrive of none", () -> house.arrive(0, 0));
        house.code();
        CHECK.due("arrive", house.arrive(2, 1000), 1);
        CHECK.due("arrive again", house.arrive(2, 0), 1);
        CHECK.due("arrive", house.arrive(0, 7), 2);
        CHECK.noPlace("arrive 3", () -> house.arrive(3, -1));
        CHECK.noPlace("arrive -1", () -> house.arrive(-1, 0));
        CHECK.noArgument("time -1", () -> house.arrive(1, -1));
        CHECK.noArgument("time 1001", () -> house.arrive(1, 1001));
        CHECK.due("arrive", house.arrive(1, 3), 3);
        house.lose(1);
        CHECK.due("lost ones, too", house.arrive(1, 3), 3);
    }

    private static void testPlayed() {
        Maskingtone house = house();
        CHECK.due("nothing was coded", house.played(0, 0), -1);
        house.code();
        CHECK.due("none has arrived", house.played(0, 0), -2);
        house.arrive(0, 5);
        house.arrive(1, 15);
        house.arrive(2, 26);
        CHECK.due("before the delay", house.played(5, 4), -1);
        CHECK.due("just in time", house.played(5, 5), 0);
        CHECK.due("for 10 units", house.played(5, 14), 0);
        CHECK.due("the next one", house.played(5, 15), 1);
        CHECK.due("too late", house.played(5, 25), -2);
        CHECK.due("too late all the time", house.played(5, 34), -2);
        CHECK.due("with more delay", house.played(6, 26), 2);
        CHECK.due("with less delay", house.played(4, 4), -2);
        CHECK.due("behind the last one", house.played(5, 35), -1);
        CHECK.due("behind the last one", house.played(0, 2000), -1);
        CHECK.due("the greatest delay", house.played(100, 129), 2);
        CHECK.noArgument("delay -1", () -> house.played(-1, 0));
        CHECK.noArgument("delay 101", () -> house.played(101, 0));
        CHECK.noArgument("time -1", () -> house.played(0, -1));
        CHECK.noArgument("time 2001", () -> house.played(0, 2001));
        house.lose(2);
        CHECK.due("a lost one that arrives", house.played(6, 26), 2);
    }

    private static void testLeastDelay() {
        Maskingtone house = house();
        CHECK.noElement("nothing was coded", () -> house.leastDelay());
        house.code();
        CHECK.noElement("none has arrived", () -> house.leastDelay());
        house.arrive(2, 19);
        CHECK.due("0 at least", house.leastDelay(), 0);
        house.arrive(1, 13);
        CHECK.due("the latest", house.leastDelay(), 3);
        house.arrive(0, 1000);
        CHECK.due("the latest", house.leastDelay(), 1000);
        house.arrive(0, 2);
        CHECK.due("told again", house.leastDelay(), 3);
        house.arrive(2, 24);
        CHECK.due("the latest", house.leastDelay(), 4);
    }

    private static void testKeep() {
        Maskingtone house = house();
        CHECK.due("keep", house.keep(0, 1), 1);
        CHECK.due("keep", house.keep(90, 96), 7);
        CHECK.due("all", house.keep(0, 96), 103);
        CHECK.due("dropEdits", house.dropEdits(), 3);
        CHECK.due("dropEdits", house.dropEdits(), 0);
        for (int i = 1; i <= 8; i++) {
            CHECK.due("keep", house.keep(3, 5), 2 * i);
        }
        CHECK.noState("a ninth", () -> house.keep(3, 5));
        CHECK.noArgument("a ninth of nothing", () -> house.keep(3, 3));
        CHECK.due("dropEdits", house.dropEdits(), 8);
        CHECK.due("keep", house.keep(3, 5), 2);
    }

    private static void testKeepWrong() {
        Maskingtone house = new Maskingtone();
        CHECK.noArgument("of none", () -> house.keep(0, 1));
        house.shape(0, 'q', 5, 2, 33);
        CHECK.noArgument("empty", () -> house.keep(4, 4));
        CHECK.noArgument("turned", () -> house.keep(5, 4));
        CHECK.noArgument("from -1", () -> house.keep(-1, 4));
        CHECK.noArgument("to 65", () -> house.keep(63, 65));
        CHECK.noArgument("far", () -> house.keep(0, Integer.MAX_VALUE));
        CHECK.noArgument("far", () -> house.keep(Integer.MIN_VALUE, 1));
        CHECK.due("all samples of the blocks", house.keep(63, 64), 1);
    }

    private static void testEdited() {
        Maskingtone house = house();
        CHECK.noElement("no edits", () -> house.edited(0, 0));
        house.keep(94, 96);
        house.keep(0, 3);
        int[] places = {94, 95, 0, 1, 2};
        for (int i = 0; i < places.length; i++) {
            CHECK.due("edited(0, " + i + ")", house.edited(0, i), house.sample(0, places[i]));
            CHECK.due("edited(1, " + i + ")", house.edited(1, i), house.sample(1, places[i]));
        }
        CHECK.due("edited", house.edited(1, 3), -9);
        CHECK.noElement("index 5", () -> house.edited(0, 5));
        CHECK.noElement("index -1", () -> house.edited(0, -1));
        CHECK.noPlace("channel 2", () -> house.edited(2, -1));
        CHECK.noPlace("channel -1", () -> house.edited(-1, 0));
        house.code();
        CHECK.due("edits stay with code", house.edited(0, 4), -600);
        house.setSample(0, 2, 77);
        CHECK.due("as it is now", house.edited(0, 4), 77);
        house.shape(0, 'q', 1, 2, 64);
        CHECK.due("not moved by more", house.edited(0, 4), 77);
        house.clear();
        CHECK.noElement("taken away by clear", () -> house.edited(0, 0));
    }
}
