/** The promises 6 to 9: about, segment, house, wagon. */
public final class ThingsTest {
    private static final Check check = new Check();

    public static void main(String[] args) {
        ranges();
        promise6About();
        promise7Segment();
        promise8House();
        promise9Wagon();
        check.end();
    }

    private static void ranges() {
        RoadDust x = Check.loaded("R0200h00w1");
        int[] wild = {-1, -9, Integer.MIN_VALUE, Integer.MAX_VALUE};
        for (int v : wild) {
            check.throwing("about " + v, Check.ARGUMENT, () -> x.about(v));
            check.throwing("segment 0 " + v, Check.ARGUMENT, () -> x.segment(0, v));
            check.throwing("segment " + v, Check.INDEX, () -> x.segment(v, 0));
            check.throwing("segment " + v + " twice wrong", Check.INDEX, () -> x.segment(v, v));
            check.throwing("house 0 " + v, Check.ARGUMENT, () -> x.house(0, v));
            check.throwing("house " + v, Check.INDEX, () -> x.house(v, 0));
            check.throwing("house " + v + " twice wrong", Check.INDEX, () -> x.house(v, v));
            check.throwing("wagon 0 " + v, Check.ARGUMENT, () -> x.wagon(0, v));
            check.throwing("wagon " + v, Check.INDEX, () -> x.wagon(v, 0));
            check.throwing("wagon " + v + " twice wrong", Check.INDEX, () -> x.wagon(v, v));
        }
        check.throwing("about 13", Check.ARGUMENT, () -> x.about(13));
        check.throwing("segment 1 7", Check.ARGUMENT, () -> x.segment(1, 7));
        check.throwing("segment 2", Check.INDEX, () -> x.segment(2, 0));
        check.throwing("house 0 5", Check.ARGUMENT, () -> x.house(0, 5));
        check.throwing("house 1", Check.INDEX, () -> x.house(1, 0));
        check.throwing("wagon 0 3", Check.ARGUMENT, () -> x.wagon(0, 3));
        check.throwing("wagon 1", Check.INDEX, () -> x.wagon(1, 0));
    }

    private static void promise6About() {
        RoadDust x = Check.loaded("R03012h00h10w0w2");
        x.set(5, 20);
        x.set(6, 9);
        x.set(7, 60);
        x.set(8, 77);
        x.spray(0, 9);
        x.spray(0, 9);
        x.fill(0);
        // Hour 1: the water of the segment 0 is 6, its dust 20*3*3*4/10 = 72; then 120 and 60.
        // The houses get (144 + 120) / 2 = 132 and (240 + 72 + 60) / 2 = 186.
        check.due("complaints of an hour", 2, () -> x.pass(1));
        int[] want = {3, 2, 2, 0, 1, 20, 9, 60, 77, 18, 2, 18, 54 + 90 + 45};
        for (int what = 0; what < want.length; what++) {
            int k = what;
            check.due("about " + k, want[k], () -> x.about(k));
        }
        x.pass(9);
        check.due("the next day", 1, () -> x.about(3));
        check.due("its hour", 0, () -> x.about(4));
        check.due("its filled liters", 0, () -> x.about(9));
    }

    private static void promise7Segment() {
        RoadDust x = Check.loaded("R03012h10h10h10");
        x.setLimit(1, 5);
        x.set(7, 200);
        x.pass(1);
        // Dust of part 2: 90, 100, 30; each house gets (200 + 90 + 30) / 2 = 160, below the bound.
        check.due("dust 0", 67, () -> x.segment(0, 3));
        check.due("dust 1", 75, () -> x.segment(1, 3));
        check.due("dust 2", 22, () -> x.segment(2, 3));
        check.due("no complaints about 1", 0, () -> x.segment(1, 6));
        x.set(7, 1);
        x.pass(1);
        check.due("three complaints about 1", 3, () -> x.segment(1, 6));
        check.due("its rank", 1, () -> x.segment(1, 2));
        check.due("its limit", 4, () -> x.segment(1, 1));
        check.due("surface of 2", 2, () -> x.segment(2, 0));
        x.setLimit(1, 2);
        x.pass(1);
        check.due("rank 2", 2, () -> x.segment(1, 2));
        check.due("a limit that is small enough stays", 2, () -> x.segment(1, 1));
        x.pass(5);
        check.due("the rank ends at 4", 4, () -> x.segment(1, 2));
        check.due("the limit of the rank 4", 1, () -> x.segment(1, 1));
        check.due("complaints go on", 21, () -> x.segment(1, 6));
        check.due("other ranks stay", 0, () -> x.segment(0, 2));
        RoadDust y = Check.loaded("R0200w1w0f1");
        y.spray(0, 4);
        check.due("water", 4, () -> y.segment(1, 4));
        check.due("other water", 0, () -> y.segment(0, 4));
        check.due("a filling place", 1, () -> y.segment(1, 5));
        check.due("none", 0, () -> y.segment(0, 5));
    }

    private static void promise8House() {
        RoadDust x = Check.loaded("R03000h00h19h12");
        for (int what = 2; what <= 4; what++) {
            int k = what;
            check.due("house 0 " + k + " at first", 0, () -> x.house(0, k));
        }
        x.pass(1);
        // All dust is 90: (180 + 90) / 2, (180 + 180) / 20, (180 + 180) / 6.
        int[] got = {135, 18, 60};
        int[] beside = {0, 1, 1};
        int[] away = {0, 9, 2};
        int[] complaints = {1, 0, 1};
        for (int i = 0; i < 3; i++) {
            int h = i;
            check.due("house " + h + " is beside", beside[h], () -> x.house(h, 0));
            check.due("house " + h + " is away", away[h], () -> x.house(h, 1));
            check.due("house " + h + " sum", got[h], () -> x.house(h, 2));
            check.due("house " + h + " complaints", complaints[h], () -> x.house(h, 3));
            check.due("house " + h + " got", got[h], () -> x.house(h, 4));
        }
        x.pass(1);
        // 90 * 3 / 4 = 67, and 90 more: 157; 471 / 2 = 235 at the house 0.
        check.due("what it got then", 235, () -> x.house(0, 4));
        check.due("its sum then", 370, () -> x.house(0, 2));
        x.addHouse(2, 0);
        check.due("a house built later got nothing yet", 0, () -> x.house(3, 4));
    }

    private static void promise9Wagon() {
        RoadDust y = new RoadDust();
        y.addWagon(3);
        y.addWagon(0);
        y.drive(0, 1);
        y.spray(0, 7);
        check.due("its segment", 1, () -> y.wagon(0, 0));
        check.due("its liters", 13, () -> y.wagon(0, 1));
        check.due("its moves", 1, () -> y.wagon(0, 2));
        check.due("another's segment", 0, () -> y.wagon(1, 0));
        check.due("another's liters", 20, () -> y.wagon(1, 1));
        check.due("another's moves", 4, () -> y.wagon(1, 2));
        y.pass(1);
        check.due("its moves in the next hour", 4, () -> y.wagon(0, 2));
        check.due("its liters in the next hour", 13, () -> y.wagon(0, 1));
    }
}
