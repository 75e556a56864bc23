/** The promises 1 to 5: a new object, append, clearText, errorPosition, load. */
public final class TextTest {
    private static final Check check = new Check();

    public static void main(String[] args) {
        promise1NewObject();
        promise2Append();
        promise3ClearText();
        promise4ErrorPosition();
        promise4Counts();
        promise5Load();
        promise5LoadForgets();
        promise5LoadAfterTrials();
        check.end();
    }

    private static void promise1NewObject() {
        RoadDust x = new RoadDust();
        int[] numbers = {4, 0, 0, 0, 0, 10, 5, 50, 40, 0, 0, 0, 0};
        for (int what = 0; what < numbers.length; what++) {
            int k = what;
            check.due("new: about " + k, numbers[k], () -> x.about(k));
        }
        int[] segment = {0, 3, 0, 0, 0, 0, 0};
        for (int s = 0; s < 4; s++) {
            for (int what = 0; what < segment.length; what++) {
                int t = s;
                int k = what;
                int want = t == 0 && k == 5 ? 1 : segment[k];
                check.due("new: segment " + t + " " + k, want, () -> x.segment(t, k));
            }
        }
        check.throwing("new: segment 4", Check.INDEX, () -> x.segment(4, 0));
        check.throwing("new: house 0", Check.INDEX, () -> x.house(0, 0));
        check.throwing("new: wagon 0", Check.INDEX, () -> x.wagon(0, 0));
        check.throwing("new: undo", Check.STATE, x::undo);
        check.throwing("new: restore 0", Check.STATE, () -> x.restore(0));
        check.throwing("new: restore 1", Check.STATE, () -> x.restore(1));
        check.due("new: the text is empty", 0, x::clearText);
        check.due("NONE", -9, () -> RoadDust.NONE);
    }

    private static void promise2Append() {
        RoadDust x = new RoadDust();
        check.due("append 0", 1, () -> x.append(0));
        check.due("append 255", 2, () -> x.append(255));
        check.throwing("append -1", Check.ARGUMENT, () -> x.append(-1));
        check.throwing("append 256", Check.ARGUMENT, () -> x.append(256));
        check.throwing("append the least int", Check.ARGUMENT, () -> x.append(Integer.MIN_VALUE));
        check.throwing("append the greatest int", Check.ARGUMENT, () -> x.append(Integer.MAX_VALUE));
        for (int k = 3; k <= 70; k++) {
            check.due("append to the length " + k, k, () -> x.append('R'));
        }
        check.throwing("append the 71st", Check.STATE, () -> x.append('R'));
        check.throwing("append the 71st, out of range", Check.ARGUMENT, () -> x.append(256));
        check.due("length at the end", 70, x::clearText);
    }

    private static void promise3ClearText() {
        RoadDust x = new RoadDust();
        check.due("clear nothing", 0, x::clearText);
        Check.type(x, "R010");
        check.due("clear four", 4, x::clearText);
        check.due("clear again", 0, x::clearText);
        check.due("an empty text is no road", 0, x::errorPosition);
        check.due("append after clear", 1, () -> x.append('R'));
    }

    private static void error(String text, int want) {
        check.due("errorPosition of '" + text + "'", want, () -> Check.errorIn(text));
    }

    private static void promise4ErrorPosition() {
        error("", 0);
        error("r010", 0);
        error(" R010", 0);
        error("R", 1);
        error("R2", 1);
        error("Rx", 1);
        error("R0", 2);
        error("R00", 2);
        error("R1", 2);
        error("R11", 2);
        error("R1:", 2);
        error("R01", 3);
        error("R013", 3);
        error("R01/", 3);
        error("R010", RoadDust.NONE);
        error("R012", RoadDust.NONE);
        error("R0100", 4);
        error("R040120", RoadDust.NONE);
        error("R04012", 6);
        error("R04012h", 6);
        error("R090120120120", 12);
        error("R09012012012", RoadDust.NONE);
        error("R100120120120", RoadDust.NONE);
        error("R10012012012", 12);
        error("R020\u00b2", 4);
        error("R010\u0000", 4);
        error("R010 h00", 4);
        error("R010h", 5);
        error("R010h0", 6);
        error("R010h1", 5);
        error("R010h00", RoadDust.NONE);
        error("R010h0x", 6);
        error("R010h0:", 6);
        error("R010H00", 4);
        error("R010w", 5);
        error("R010w1", 5);
        error("R010w0", RoadDust.NONE);
        error("R010f", 5);
        error("R010f1", 5);
        error("R010f0", RoadDust.NONE);
        error("R010x", 4);
        error("R100000000000h99w9f9", RoadDust.NONE);
        error("R09000000000h90", 13);
        error("R09000000000h89", RoadDust.NONE);
    }

    private static void promise4Counts() {
        error("R010h00h01h02h03h04h05h06h07", RoadDust.NONE);
        error("R010h00h01h02h03h04h05h06h07h08", 28);
        error("R010h00h01h02h03h04h05h06h07w0f0", RoadDust.NONE);
        error("R010w0w0w0", RoadDust.NONE);
        error("R010w0w0w0w0", 10);
        error("R010f0f", 6);
        error("R0200f1", RoadDust.NONE);
        error("R0200f1f", 8);
        error("R0200f1f1", 8);
        error("R0200f1f0", RoadDust.NONE);
        error("R0200f0f1f0", 9);
        error("R0200w1f1h09w0f0w0h19", RoadDust.NONE);
        error("R100000000000f0f1f2f3f4f5f6f7f8f9h00h00h00h00h00h00h00h00w0w0w0", RoadDust.NONE);
        error("R100000000000f0f1f2f3f4f5f6f7f8f9h00h00h00h00h00h00h00h00w0w0w0h", 63);
    }

    private static void promise5Load() {
        RoadDust x = new RoadDust();
        Check.type(x, "R05 ");
        String before = Check.seen(x);
        check.throwing("load of no road", Check.STATE, x::load);
        check.that("a load that throws changes nothing", before.equals(Check.seen(x)));
        x.clearText();
        Check.type(x, "R0501201h39w4h00f2w1f4");
        check.due("load", 5, x::load);
        check.due("load keeps the text", 5, x::load);
        int[] surfaces = {0, 1, 2, 0, 1};
        int[] filling = {0, 0, 1, 0, 1};
        for (int s = 0; s < 5; s++) {
            int t = s;
            check.due("loaded surface " + t, surfaces[t], () -> x.segment(t, 0));
            check.due("loaded limit " + t, 3, () -> x.segment(t, 1));
            check.due("loaded filling place " + t, filling[t], () -> x.segment(t, 5));
        }
        check.throwing("no sixth segment", Check.INDEX, () -> x.segment(5, 0));
        check.due("houses", 2, () -> x.about(1));
        check.due("house 0 is beside", 3, () -> x.house(0, 0));
        check.due("house 0 is away", 9, () -> x.house(0, 1));
        check.due("house 1 is beside", 0, () -> x.house(1, 0));
        check.due("house 1 is away", 0, () -> x.house(1, 1));
        check.due("wagons", 2, () -> x.about(2));
        check.due("wagon 0 is in", 4, () -> x.wagon(0, 0));
        check.due("wagon 1 is in", 1, () -> x.wagon(1, 0));
        check.due("wagon 1 has", 20, () -> x.wagon(1, 1));
        check.due("wagon 1 may move", 4, () -> x.wagon(1, 2));
        check.due("without f the segment 0 fills", 1, () -> Check.loaded("R0200").segment(0, 5));
        check.due("f0 f1: the segment 0 fills", 1, () -> Check.loaded("R0200f1f0").segment(0, 5));
        check.due("f1: the segment 0 does not", 0, () -> Check.loaded("R0200f1").segment(0, 5));
        check.due("ten segments", 10, () -> Check.loaded("R100000000000").about(0));
    }

    private static void promise5LoadForgets() {
        RoadDust x = Check.loaded("R0201h10w1");
        String fresh = Check.seen(x);
        x.set(5, 20);
        x.set(6, 0);
        x.set(7, 1);
        x.set(8, 99);
        x.addHouse(0, 0);
        x.setLimit(0, 5);
        x.setSurface(0, 2);
        x.drive(0, 0);
        x.spray(0, 9);
        x.fill(0);
        x.pass(33);
        x.save(0);
        x.save(1);
        check.due("load again", 2, x::load);
        check.that("load makes everything as new", fresh.equals(Check.seen(x)));
        check.throwing("load forgets the states", Check.STATE, x::undo);
        check.throwing("load empties slot 0", Check.STATE, () -> x.restore(0));
        check.throwing("load empties slot 1", Check.STATE, () -> x.restore(1));
        x.pass(3);
        x.save(1);
        x.append('?');
        check.throwing("load of a spoilt text", Check.STATE, x::load);
        check.due("a load that throws keeps the slots", 3, () -> x.restore(1));
        x.pass(1);
        check.throwing("load of a spoilt text again", Check.STATE, x::load);
        check.due("a load that throws keeps the remembered states", 0, x::undo);
    }

    private static void promise5LoadAfterTrials() {
        RoadDust x = Check.loaded("R102222222222h00h10h20h30w1w2w3f9");
        x.set(7, 1);
        x.set(8, 0);
        x.setLimit(3, 5);
        x.spray(0, 9);
        x.pass(17);
        x.clearText();
        Check.type(x, "R03100h10h21w0w1");
        String fresh = Check.seen(Check.loaded("R03100h10h21w0w1"));
        for (int k = 0; k < 2; k++) {
            x.simulate(9L, 15);
            x.runScript(4, 3009400030097020L);
            check.due("load after trials", 3, x::load);
            check.that("trials leave nothing behind", fresh.equals(Check.seen(x)));
            x.pass(13);
        }
    }
}
