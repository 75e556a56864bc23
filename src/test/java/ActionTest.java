/** The promises 10 to 19: the actions, an hour, and undo. */
public final class ActionTest {
    private static final Check check = new Check();

    public static void main(String[] args) {
        promise10AddHouse();
        promise11AddWagon();
        promise12SetSurface();
        promise13SetLimit();
        promise14Set();
        promise15Drive();
        promise16Spray();
        promise17Fill();
        promise18Pass();
        anHourDriesTheRoad();
        anHourRaisesDust();
        anHourReachesHouses();
        theRankEndsAtFour();
        promise19Undo();
        undoTakesEachActionBack();
        undoneHouseIsBuiltAnew();
        refusedCallsChangeNothing();
        check.end();
    }

    private static void promise10AddHouse() {
        RoadDust x = new RoadDust();
        check.throwing("house at -1", Check.INDEX, () -> x.addHouse(-1, 0));
        check.throwing("house at 4", Check.INDEX, () -> x.addHouse(4, 10));
        check.throwing("distance -1", Check.ARGUMENT, () -> x.addHouse(0, -1));
        check.throwing("distance 10", Check.ARGUMENT, () -> x.addHouse(3, 10));
        for (int i = 0; i < 8; i++) {
            int h = i;
            check.due("house " + h, h, () -> x.addHouse(h % 4, h == 7 ? 9 : h));
        }
        check.throwing("a ninth house", Check.STATE, () -> x.addHouse(0, 0));
        check.throwing("a ninth house too far", Check.ARGUMENT, () -> x.addHouse(0, 10));
        check.throwing("a ninth house nowhere", Check.INDEX, () -> x.addHouse(4, 0));
        check.due("house 6 is beside", 2, () -> x.house(6, 0));
        check.due("house 7 is away", 9, () -> x.house(7, 1));
    }

    private static void promise11AddWagon() {
        RoadDust x = new RoadDust();
        check.throwing("wagon at -1", Check.INDEX, () -> x.addWagon(-1));
        check.throwing("wagon at 4", Check.INDEX, () -> x.addWagon(4));
        check.due("wagon 0", 0, () -> x.addWagon(3));
        check.due("wagon 1", 1, () -> x.addWagon(3));
        check.due("wagon 2", 2, () -> x.addWagon(0));
        check.throwing("a fourth wagon", Check.STATE, () -> x.addWagon(0));
        check.throwing("a fourth wagon nowhere", Check.INDEX, () -> x.addWagon(4));
        check.due("its segment", 3, () -> x.wagon(1, 0));
        check.due("its liters", 20, () -> x.wagon(1, 1));
        check.due("its moves", 4, () -> x.wagon(1, 2));
    }

    private static void promise12SetSurface() {
        RoadDust x = new RoadDust();
        check.throwing("surface of -1", Check.INDEX, () -> x.setSurface(-1, 3));
        check.throwing("surface of 4", Check.INDEX, () -> x.setSurface(4, 0));
        check.throwing("surface -1", Check.ARGUMENT, () -> x.setSurface(0, -1));
        check.throwing("surface 3", Check.ARGUMENT, () -> x.setSurface(0, 3));
        check.due("gravel before", 0, () -> x.setSurface(2, 2));
        check.due("paved before", 2, () -> x.setSurface(2, 1));
        check.due("chippings before", 1, () -> x.setSurface(2, 1));
        check.due("surface", 1, () -> x.segment(2, 0));
        check.due("another surface", 0, () -> x.segment(1, 0));
    }

    private static void promise13SetLimit() {
        RoadDust x = Check.loaded("R0200h00h00h00");
        check.throwing("limit of -1", Check.INDEX, () -> x.setLimit(-1, 0));
        check.throwing("limit of 2", Check.INDEX, () -> x.setLimit(2, 1));
        check.throwing("limit 0", Check.ARGUMENT, () -> x.setLimit(0, 0));
        check.throwing("limit 6", Check.ARGUMENT, () -> x.setLimit(0, 6));
        check.due("limit before", 3, () -> x.setLimit(0, 5));
        check.due("limit before then", 5, () -> x.setLimit(0, 1));
        check.due("limit", 1, () -> x.segment(0, 1));
        x.pass(1);
        check.due("rank", 1, () -> x.segment(0, 2));
        check.throwing("limit 5 at the rank 1", Check.STATE, () -> x.setLimit(0, 5));
        check.throwing("limit 6 at the rank 1", Check.ARGUMENT, () -> x.setLimit(0, 6));
        check.due("limit 4 at the rank 1", 1, () -> x.setLimit(0, 4));
        check.due("limit 5 of another segment", 3, () -> x.setLimit(1, 5));
    }

    private static void promise14Set() {
        RoadDust x = new RoadDust();
        int[] most = {20, 9, 200, 99};
        int[] least = {0, 0, 1, 0};
        int[] first = {10, 5, 50, 40};
        for (int k = 0; k < 4; k++) {
            int what = k + 5;
            int low = least[k];
            int high = most[k];
            int old = first[k];
            check.throwing("set " + what + " too small", Check.ARGUMENT, () -> x.set(what, low - 1));
            check.throwing("set " + what + " too great", Check.ARGUMENT, () -> x.set(what, high + 1));
            check.due("set " + what + " to the most", old, () -> x.set(what, high));
            check.due("set " + what + " to the least", high, () -> x.set(what, low));
            check.due("about " + what, low, () -> x.about(what));
        }
        int[] none = {Integer.MIN_VALUE, -1, 0, 1, 2, 3, 4, 9, 10, 11, 12, 13, Integer.MAX_VALUE};
        for (int what : none) {
            check.throwing("set " + what, Check.ARGUMENT, () -> x.set(what, 1));
        }
    }

    private static void promise15Drive() {
        RoadDust x = Check.loaded("R0800000000w2w7");
        check.throwing("drive -1", Check.INDEX, () -> x.drive(-1, 0));
        check.throwing("drive 2", Check.INDEX, () -> x.drive(2, 0));
        check.throwing("drive to -1", Check.INDEX, () -> x.drive(0, -1));
        check.throwing("drive to 8", Check.INDEX, () -> x.drive(0, 8));
        check.throwing("drive to far away", Check.INDEX, () -> x.drive(0, Integer.MAX_VALUE));
        check.throwing("drive five segments", Check.STATE, () -> x.drive(0, 7));
        check.due("drive nowhere", 4, () -> x.drive(0, 2));
        check.due("drive four segments", 0, () -> x.drive(0, 6));
        check.due("its segment", 6, () -> x.wagon(0, 0));
        check.throwing("drive without a move", Check.STATE, () -> x.drive(0, 5));
        check.due("stay without a move", 0, () -> x.drive(0, 6));
        check.due("drive back one", 3, () -> x.drive(1, 6));
        check.due("drive back three", 0, () -> x.drive(1, 3));
        x.pass(1);
        check.due("drive in the next hour", 1, () -> x.drive(1, 0));
    }

    private static void promise16Spray() {
        RoadDust x = Check.loaded("R0200w1w1");
        check.throwing("spray -1", Check.INDEX, () -> x.spray(-1, 1));
        check.throwing("spray 2", Check.INDEX, () -> x.spray(2, 0));
        check.throwing("spray 0 liters", Check.ARGUMENT, () -> x.spray(0, 0));
        check.throwing("spray 10 liters", Check.ARGUMENT, () -> x.spray(0, 10));
        check.due("spray 4", 4, () -> x.spray(0, 4));
        check.due("spray 5 more", 9, () -> x.spray(0, 5));
        check.due("spray what is lost", 9, () -> x.spray(0, 9));
        check.due("liters left", 2, () -> x.wagon(0, 1));
        check.throwing("spray more than it has", Check.STATE, () -> x.spray(0, 3));
        check.due("spray the last", 9, () -> x.spray(0, 2));
        check.due("sprayed so far", 20, () -> x.about(11));
        check.due("no liters", 0, () -> x.wagon(0, 1));
        check.due("no moves", 0, () -> x.wagon(0, 2));
        check.due("water", 9, () -> x.segment(1, 4));
        check.due("no water", 0, () -> x.segment(0, 4));
        for (int k = 0; k < 4; k++) {
            x.spray(1, 1);
        }
        check.throwing("spray without a move", Check.STATE, () -> x.spray(1, 1));
        check.throwing("too many liters without a move", Check.ARGUMENT, () -> x.spray(1, 10));
    }

    private static void promise17Fill() {
        RoadDust x = Check.loaded("R0200w0w0w1f0");
        check.throwing("fill -1", Check.INDEX, () -> x.fill(-1));
        check.throwing("fill 3", Check.INDEX, () -> x.fill(3));
        check.throwing("fill a full tank", Check.STATE, () -> x.fill(0));
        check.throwing("fill in no filling place", Check.STATE, () -> x.fill(2));
        x.set(8, 12);
        x.spray(0, 9);
        check.due("fill nine", 9, () -> x.fill(0));
        check.due("moves after it", 2, () -> x.wagon(0, 2));
        check.due("liters after it", 20, () -> x.wagon(0, 1));
        x.spray(1, 9);
        check.due("fill what the right allows", 3, () -> x.fill(1));
        check.due("liters after that", 14, () -> x.wagon(1, 1));
        check.due("filled on this day", 12, () -> x.about(9));
        check.throwing("fill beyond the right", Check.STATE, () -> x.fill(1));
        x.set(8, 13);
        check.due("fill one more liter", 1, () -> x.fill(1));
        x.set(8, 5);
        x.pass(9);
        check.throwing("the same day, a smaller right", Check.STATE, () -> x.fill(1));
        x.pass(1);
        check.due("the next day", 5, () -> x.fill(1));
        check.due("filled on the next day", 5, () -> x.about(9));
        x.spray(0, 1);
        x.spray(0, 1);
        x.spray(0, 1);
        x.spray(0, 1);
        check.throwing("fill without a move", Check.STATE, () -> x.fill(0));
    }

    private static void promise18Pass() {
        RoadDust x = Check.loaded("R010h00");
        int[] wrong = {0, -1, 51, Integer.MIN_VALUE, Integer.MAX_VALUE};
        for (int hours : wrong) {
            check.throwing("pass " + hours, Check.ARGUMENT, () -> x.pass(hours));
        }
        check.due("pass 1", 1, () -> x.pass(1));
        check.due("the hour", 1, () -> x.about(4));
        check.due("pass 9", 9, () -> x.pass(9));
        check.due("the next day's hour", 0, () -> x.about(4));
        check.due("the next day", 1, () -> x.about(3));
        check.due("pass 50", 50, () -> x.pass(50));
        check.due("the day then", 6, () -> x.about(3));
        check.due("together they are one action", 2, x::undo);
        check.due("the hour before it", 0, () -> x.about(4));
        check.due("the day before it", 1, () -> x.about(3));
        check.due("the complaints before it", 10, () -> x.about(10));
        x.set(7, 200);
        x.set(5, 0);
        // The limit fell to 2 with the ninth complaint, and 231 of dust still lie; then 173.
        check.due("a complaint about the dust that lies", 1, () -> x.pass(20));
        check.due("no complaints", 0, () -> x.pass(20));
    }

    /** Water that is left of 9 after an hour, and whether the sun and the lorries take it. */
    private static void left(int surface, int sun, int lorries, int want) {
        RoadDust x = Check.loaded("R01" + surface + "w0");
        x.spray(0, 9);
        x.set(6, sun);
        x.set(5, lorries);
        x.pass(1);
        check.due("water: surface " + surface + " sun " + sun + " L " + lorries, want, () -> x.segment(0, 4));
    }

    private static void anHourDriesTheRoad() {
        left(0, 9, 5, 6);
        left(0, 8, 0, 7);
        left(0, 2, 20, 9);
        left(1, 9, 5, 7);
        left(1, 7, 5, 8);
        left(1, 3, 5, 9);
        left(2, 9, 1, 4);
        left(2, 9, 0, 5);
        left(2, 1, 1, 8);
        left(2, 0, 0, 9);
        RoadDust x = Check.loaded("R012w0");
        x.spray(0, 2);
        x.pass(1);
        check.due("water does not fall below 0", 0, () -> x.segment(0, 4));
    }

    private static void anHourRaisesDust() {
        RoadDust x = Check.loaded("R03012w0");
        x.set(5, 7);
        x.set(6, 0);
        x.spray(0, 3);
        x.drive(0, 1);
        x.spray(0, 6);
        x.drive(0, 2);
        x.pass(1);
        // 7*3*3*7/10 = 44, 7*3*2*4/10 = 16, 7*3*1*10/10 = 21; three quarters stay.
        check.due("gravel", 33, () -> x.segment(0, 3));
        check.due("chippings", 12, () -> x.segment(1, 3));
        check.due("paved", 15, () -> x.segment(2, 3));
        check.due("all dust", 60, () -> x.about(12));
        RoadDust y = Check.loaded("R010h00");
        y.setLimit(0, 5);
        y.set(5, 20);
        y.set(7, 200);
        y.pass(1);
        check.due("300 come in an hour", 225, () -> y.segment(0, 3));
        check.due("and the house got them", 300, () -> y.house(0, 4));
        y.pass(1);
        check.due("525 in the second hour", 393, () -> y.segment(0, 3));
        RoadDust z = Check.loaded("R010");
        z.setLimit(0, 5);
        z.set(5, 20);
        z.pass(50);
        // Three quarters of 999, and 300 more, are above 999 again.
        check.due("not above 999", 749, () -> z.segment(0, 3));
        z.set(5, 16);
        z.setLimit(0, 5);
        z.pass(1);
        check.due("989 are below 999", 741, () -> z.segment(0, 3));
    }

    private static void anHourReachesHouses() {
        RoadDust x = Check.loaded("R03000h00h10h20h01h19");
        x.setLimit(0, 1);
        x.setLimit(2, 5);
        x.set(7, 95);
        // Dust 30, 90, 150: (60 + 90) / 2, (180 + 180) / 2, (300 + 90) / 2, 150 / 4, 360 / 20.
        check.due("complaints", 2, () -> x.pass(1));
        int[] got = {75, 180, 195, 37, 18};
        for (int i = 0; i < got.length; i++) {
            int h = i;
            check.due("house " + h, got[h], () -> x.house(h, 4));
        }
        RoadDust y = Check.loaded("R010h00");
        y.set(5, 5);
        y.set(7, 45);
        check.due("as much as the bound: it complains", 1, () -> y.pass(1));
        RoadDust z = Check.loaded("R010h00");
        z.set(5, 5);
        z.set(7, 46);
        check.due("less than the bound: it does not", 0, () -> z.pass(1));
    }

    private static void theRankEndsAtFour() {
        RoadDust x = Check.loaded("R0200h00h01h00h00h10");
        x.setLimit(0, 5);
        x.set(7, 1);
        int[] ranks = {1, 2, 4, 4};
        int[] limits = {4, 3, 1, 1};
        // Four complaints about the segment 0 in each hour: 4, 8, 12, 16.
        for (int k = 0; k < ranks.length; k++) {
            x.pass(1);
            int rank = ranks[k];
            int limit = limits[k];
            check.due("rank after " + (k + 1), rank, () -> x.segment(0, 2));
            check.due("limit after " + (k + 1), limit, () -> x.segment(0, 1));
        }
        check.due("complaints about 0", 16, () -> x.segment(0, 6));
        check.due("complaints about 1", 4, () -> x.segment(1, 6));
        check.due("rank of 1", 1, () -> x.segment(1, 2));
        check.due("limit of 1: 3 is not greater than 4", 3, () -> x.segment(1, 1));
    }

    private static void promise19Undo() {
        RoadDust x = new RoadDust();
        check.throwing("undo nothing", Check.STATE, x::undo);
        for (int k = 1; k <= 14; k++) {
            x.set(5, k);
        }
        for (int k = 13; k >= 0; k--) {
            int left = k;
            check.due("undo with " + k + " left", left, x::undo);
            check.due("lorries with " + k + " left", left == 0 ? 10 : left, () -> x.about(5));
        }
        check.throwing("undo one more", Check.STATE, x::undo);
        for (int k = 1; k <= 17; k++) {
            x.set(5, k);
        }
        for (int k = 13; k >= 0; k--) {
            int left = k;
            check.due("undo again with " + k + " left", left, x::undo);
            check.due("lorries again with " + k + " left", left + 3, () -> x.about(5));
        }
        check.throwing("the oldest are forgotten", Check.STATE, x::undo);
        for (int k = 1; k <= 15; k++) {
            x.set(5, k);
        }
        check.throwing("a refused action", Check.ARGUMENT, () -> x.set(5, 21));
        for (int k = 13; k >= 0; k--) {
            x.undo();
        }
        check.due("the oldest of 14 states, after a refused action", 1, () -> x.about(5));
        x.set(5, 3);
        check.due("nothing became different, yet it was an action", 0, x::undo);
        x.set(5, 1);
        x.set(5, 2);
        x.undo();
        x.set(5, 9);
        check.due("an action after undo", 1, x::undo);
        check.due("lorries after undo", 1, () -> x.about(5));
    }

    private static void undoTakesEachActionBack() {
        RoadDust x = busy();
        takesBack(x, () -> x.addHouse(2, 3), () -> x.addWagon(2), () -> x.setSurface(0, 2));
        RoadDust y = busy();
        takesBack(y, () -> y.setLimit(1, 1), () -> y.set(6, 9), () -> y.drive(1, 2));
        RoadDust z = busy();
        takesBack(z, () -> z.spray(1, 9), () -> z.fill(0), () -> z.pass(7));
    }

    /** A road with two remembered states. */
    private static RoadDust busy() {
        RoadDust x = Check.loaded("R03012h00w0w1");
        x.spray(0, 5);
        x.pass(3);
        return x;
    }

    private static void takesBack(RoadDust x, Runnable... actions) {
        String[] before = new String[actions.length];
        for (int k = 0; k < actions.length; k++) {
            before[k] = Check.seen(x);
            actions[k].run();
            check.that("action " + k + " changes nothing", !before[k].equals(Check.seen(x)));
        }
        for (int k = actions.length - 1; k >= 0; k--) {
            int left = k + 2;
            check.due("undo of action " + k, left, x::undo);
            check.that("action " + k + " is not taken back", before[k].equals(Check.seen(x)));
        }
    }

    private static void undoneHouseIsBuiltAnew() {
        RoadDust x = busy();
        x.addHouse(0, 0);
        x.pass(5);
        x.undo();
        x.undo();
        x.addHouse(1, 1);
        check.due("a house built anew has no sum", 0, () -> x.house(1, 2));
        check.due("and no complaints", 0, () -> x.house(1, 3));
        check.due("and got nothing", 0, () -> x.house(1, 4));
    }

    private static void refusedCallsChangeNothing() {
        RoadDust x = Check.loaded("R0200h00h00h00h00h00h00h00h00w1w1w1");
        x.pass(5);
        x.drive(0, 0);
        String before = Check.seen(x);
        check.throwing("addHouse", Check.STATE, () -> x.addHouse(0, 0));
        check.throwing("addWagon", Check.STATE, () -> x.addWagon(0));
        check.throwing("setSurface", Check.ARGUMENT, () -> x.setSurface(0, 3));
        check.throwing("setLimit", Check.STATE, () -> x.setLimit(0, 5));
        check.throwing("set", Check.ARGUMENT, () -> x.set(7, 0));
        check.throwing("drive", Check.INDEX, () -> x.drive(0, 2));
        check.throwing("spray", Check.ARGUMENT, () -> x.spray(0, 10));
        check.throwing("fill", Check.STATE, () -> x.fill(1));
        check.throwing("pass", Check.ARGUMENT, () -> x.pass(0));
        check.that("refused calls change nothing", before.equals(Check.seen(x)));
        check.due("refused calls are no actions", 1, x::undo);
    }
}
