/** The promises 20 to 26: what would be. */
public final class WouldBeTest {
    private static final Check check = new Check();

    public static void main(String[] args) {
        promise20WhyNoFill();
        promise21Ahead();
        promise22WaterFor();
        promise23LimitFor();
        promise24BestSpray();
        promise24TiesAndNone();
        promise25ComplainsIn();
        promise26Dustiest();
        theyChangeNothing();
        check.end();
    }

    private static void promise20WhyNoFill() {
        RoadDust x = Check.loaded("R0200w0w1");
        check.throwing("whyNoFill -1", Check.INDEX, () -> x.whyNoFill(-1));
        check.throwing("whyNoFill 2", Check.INDEX, () -> x.whyNoFill(2));
        check.due("a full tank", 3, () -> x.whyNoFill(0));
        x.set(8, 0);
        check.due("a full tank comes before no right", 3, () -> x.whyNoFill(0));
        check.due("no filling place comes first", 2, () -> x.whyNoFill(1));
        x.spray(0, 9);
        check.due("no right", 4, () -> x.whyNoFill(0));
        x.set(8, 9);
        check.due("nothing hinders it", 0, () -> x.whyNoFill(0));
        x.fill(0);
        x.spray(0, 1);
        check.due("the right is used up", 4, () -> x.whyNoFill(0));
        x.set(8, 3);
        check.due("the right was made smaller", 4, () -> x.whyNoFill(0));
        x.set(8, 40);
        check.due("the right was made greater", 0, () -> x.whyNoFill(0));
        x.fill(0);
        check.due("no move comes before a full tank", 1, () -> x.whyNoFill(0));
        for (int k = 0; k < 4; k++) {
            x.spray(1, 1);
        }
        check.due("no move comes before no filling place", 1, () -> x.whyNoFill(1));
    }

    private static void promise21Ahead() {
        RoadDust x = Check.loaded("R0200h00h19");
        check.throwing("ahead -1", Check.INDEX, () -> x.ahead(-1, 1));
        check.throwing("ahead 2", Check.INDEX, () -> x.ahead(2, 0));
        int[] wrong = {0, -1, 21, Integer.MIN_VALUE, Integer.MAX_VALUE};
        for (int hours : wrong) {
            check.throwing("ahead 0 " + hours, Check.ARGUMENT, () -> x.ahead(0, hours));
        }
        check.due("ahead 1", 135, () -> x.ahead(0, 1));
        check.due("ahead 1, far away", 13, () -> x.ahead(1, 1));
        check.due("ahead 2", 235, () -> x.ahead(0, 2));
        x.set(7, 1);
        for (int hours = 1; hours <= 20; hours++) {
            int h = hours;
            long want = gotAfter(h);
            check.due("ahead " + h + ", with ranks that rise", want, () -> x.ahead(0, h));
        }
    }

    private static long gotAfter(int hours) {
        RoadDust x = Check.loaded("R0200h00h19");
        x.set(7, 1);
        x.pass(hours);
        return x.house(0, 4);
    }

    private static void promise22WaterFor() {
        RoadDust x = Check.loaded("R010h00h09");
        check.throwing("waterFor -1", Check.INDEX, () -> x.waterFor(-1));
        check.throwing("waterFor 2", Check.INDEX, () -> x.waterFor(2));
        x.set(6, 3);
        x.set(7, 91);
        check.due("none needed", 0, () -> x.waterFor(0));
        x.set(7, 90);
        // 90 with the water 0 or, as one liter dries, with 1; 81 with 2.
        check.due("two liters", 2, () -> x.waterFor(0));
        check.due("none far away", 0, () -> x.waterFor(1));
        x.set(7, 19);
        check.due("nine liters", 9, () -> x.waterFor(0));
        x.set(7, 18);
        check.due("more than there can be", RoadDust.NONE, () -> x.waterFor(0));
        x.addWagon(0);
        x.spray(0, 4);
        x.set(7, 50);
        // One liter dries: 90 * (10 - 3) / 10 = 63, 54 with one more, 45 with two more.
        check.due("beside the water that is there", 2, () -> x.waterFor(0));
    }

    private static void promise23LimitFor() {
        RoadDust x = Check.loaded("R010h00h00h00h09");
        check.throwing("limitFor -1", Check.INDEX, () -> x.limitFor(-1));
        check.throwing("limitFor 4", Check.INDEX, () -> x.limitFor(4));
        x.set(7, 151);
        check.due("limit 5", 5, () -> x.limitFor(0));
        x.set(7, 150);
        check.due("limit 4", 4, () -> x.limitFor(0));
        x.set(7, 31);
        check.due("limit 1", 1, () -> x.limitFor(0));
        x.set(7, 30);
        check.due("no limit", RoadDust.NONE, () -> x.limitFor(0));
        check.due("any limit far away", 5, () -> x.limitFor(3));
        x.pass(1);
        x.set(7, 200);
        check.due("rank", 1, () -> x.segment(0, 2));
        // The dust is 67: 67 + 120 = 187.
        check.due("the rank bounds it", 4, () -> x.limitFor(0));
        x.set(7, 187);
        check.due("below it", 3, () -> x.limitFor(0));
        x.setLimit(0, 1);
        check.due("the present limit does not matter", 3, () -> x.limitFor(0));
    }

    private static void promise24BestSpray() {
        RoadDust x = Check.loaded("R0800000000h30w0w5");
        check.throwing("bestSpray -1", Check.INDEX, () -> x.bestSpray(-1, 1));
        check.throwing("bestSpray 2", Check.INDEX, () -> x.bestSpray(2, 0));
        int[] wrong = {0, -1, 10, Integer.MIN_VALUE, Integer.MAX_VALUE};
        for (int liters : wrong) {
            check.throwing("bestSpray 0 " + liters, Check.ARGUMENT, () -> x.bestSpray(0, liters));
        }
        check.due("the house's segment", 3, () -> x.bestSpray(0, 9));
        check.due("the house's segment from the other side", 3, () -> x.bestSpray(1, 9));
        x.drive(0, 0);
        x.spray(0, 1);
        check.due("with two segments left it ends beside", 2, () -> x.bestSpray(0, 9));
        x.spray(0, 1);
        check.due("with one segment left nothing helps: the nearest", 0, () -> x.bestSpray(0, 9));
        x.drive(1, 4);
        check.due("one segment away", 3, () -> x.bestSpray(1, 5));
        x.drive(1, 5);
        check.due("two segments away with one of two moves for the way", 4, () -> x.bestSpray(1, 5));
    }

    private static void promise24TiesAndNone() {
        RoadDust x = Check.loaded("R0500000w2");
        check.due("no houses: the nearest", 2, () -> x.bestSpray(0, 3));
        x.addHouse(1, 0);
        x.addHouse(3, 0);
        check.due("a segment between two houses", 2, () -> x.bestSpray(0, 9));
        x.addHouse(1, 0);
        check.due("two houses at 1", 1, () -> x.bestSpray(0, 9));
        x.addHouse(3, 0);
        x.setSurface(2, 2);
        check.due("as good at 1 and 3: the smallest number", 1, () -> x.bestSpray(0, 9));
        x.drive(0, 3);
        check.due("as good at 1 and 3: the nearest", 3, () -> x.bestSpray(0, 9));
        x.spray(0, 1);
        x.spray(0, 1);
        check.due("a last move", 3, () -> x.bestSpray(0, 9));
        x.spray(0, 1);
        check.due("no move", RoadDust.NONE, () -> x.bestSpray(0, 1));
        check.throwing("no move, too many liters", Check.ARGUMENT, () -> x.bestSpray(0, 10));
        x.pass(1);
        x.spray(0, 9);
        x.spray(0, 4);
        check.due("liters left", 4, () -> x.wagon(0, 1));
        // The segment 3 is wet, and more water there would be lost.
        check.due("as many as it has", 4, () -> x.bestSpray(0, 4));
        check.due("more than it has", RoadDust.NONE, () -> x.bestSpray(0, 5));
    }

    private static void promise25ComplainsIn() {
        RoadDust x = Check.loaded("R010h00h09");
        check.throwing("complainsIn -1", Check.INDEX, () -> x.complainsIn(-1));
        check.throwing("complainsIn 2", Check.INDEX, () -> x.complainsIn(2));
        check.due("in the next hour", 1, () -> x.complainsIn(0));
        x.set(7, 200);
        // 90, 157, 207.
        check.due("in the third hour", 3, () -> x.complainsIn(0));
        check.due("never, far away", RoadDust.NONE, () -> x.complainsIn(1));
        x.set(5, 0);
        check.due("never without lorries", RoadDust.NONE, () -> x.complainsIn(0));
        x.set(5, 10);
        x.pass(2);
        check.due("two hours later", 1, () -> x.complainsIn(0));
    }

    private static void promise26Dustiest() {
        check.due("no houses", 0, () -> new RoadDust().dustiest());
        check.due("a house at 2", 2, () -> Check.loaded("R040000h20").dustiest());
        check.due("houses at 0 and 2", 0, () -> Check.loaded("R03000h00h20").dustiest());
        check.due("a paved segment between", 0, () -> Check.loaded("R03020h00h20").dustiest());
        // Dust 90, 30, 90, 90: without the segment 2 both get 45 less, without 3 one gets 90 less.
        check.due("houses at 1 and 3", 2, () -> Check.loaded("R040200h10h30").dustiest());
        RoadDust x = Check.loaded("R03000h10");
        x.setLimit(1, 1);
        x.setLimit(2, 5);
        // What comes: 90, 2 * 30, 150.
        check.due("a segment beside it", 2, x::dustiest);
        x.setLimit(1, 3);
        // 90, 2 * 90, 150.
        check.due("its own segment", 1, x::dustiest);
        x.setLimit(1, 2);
        x.setLimit(2, 4);
        // 90, 2 * 60, 120: the smallest number.
        check.due("two as dusty", 1, x::dustiest);
        RoadDust y = Check.loaded("R0200h09");
        y.setLimit(0, 1);
        // (60 + 90) / 20 = 7: without the segment 0 it is 90 / 20 = 4, without the segment 1 it is 3.
        check.due("rounded down as in part 3", 1, y::dustiest);
    }

    private static void theyChangeNothing() {
        RoadDust x = Check.loaded("R040012h10h33w1w0");
        x.spray(0, 5);
        x.pass(4);
        x.spray(1, 5);
        String before = Check.seen(x);
        for (int i = 0; i < 2; i++) {
            x.whyNoFill(i);
            x.ahead(i, 20);
            x.waterFor(i);
            x.limitFor(i);
            x.bestSpray(i, 5);
            x.complainsIn(i);
        }
        x.dustiest();
        x.runScript(4, 1010600171203901L);
        x.simulate(77L, 20);
        x.errorPosition();
        check.that("what would be changes nothing", before.equals(Check.seen(x)));
        check.due("and is no action", 2, x::undo);
    }
}
