/** The promises 29 and 30: save, restore. */
public final class SlotTest {
    private static final Check check = new Check();

    public static void main(String[] args) {
        ranges();
        promise29Save();
        promise30Restore();
        slotsAndActions();
        check.end();
    }

    private static void ranges() {
        RoadDust x = new RoadDust();
        int[] wrong = {-1, 2, Integer.MIN_VALUE, Integer.MAX_VALUE};
        for (int slot : wrong) {
            check.throwing("save " + slot, Check.INDEX, () -> x.save(slot));
            check.throwing("restore " + slot, Check.INDEX, () -> x.restore(slot));
        }
    }

    private static void promise29Save() {
        RoadDust x = Check.loaded("R0201h00w1");
        check.due("save at first", 0, () -> x.save(1));
        x.pass(37);
        String before = Check.seen(x);
        check.due("save later", 37, () -> x.save(0));
        check.that("save changes nothing", before.equals(Check.seen(x)));
        check.due("save is no action", 0, x::undo);
        check.due("undo does not reach a slot", 37, () -> x.restore(0));
        check.that("the saved state", before.equals(Check.seen(x)));
    }

    private static void promise30Restore() {
        RoadDust x = Check.loaded("R0201h00w1f1");
        x.spray(0, 7);
        x.pass(12);
        x.fill(0);
        String saved = Check.seen(x);
        check.throwing("restore of nothing", Check.STATE, () -> x.restore(0));
        check.throwing("restore of nothing in 1", Check.STATE, () -> x.restore(1));
        check.due("a restore that throws forgets nothing", 2, x::undo);
        x.fill(0);
        check.due("save", 12, () -> x.save(0));
        x.addHouse(1, 0);
        x.addWagon(0);
        x.setSurface(0, 2);
        x.set(7, 3);
        x.pass(50);
        check.due("save later", 62, () -> x.save(1));
        String later = Check.seen(x);
        check.due("restore", 12, () -> x.restore(0));
        check.that("the state is the saved one", saved.equals(Check.seen(x)));
        check.throwing("restore forgets the remembered states", Check.STATE, x::undo);
        check.due("restore the other", 62, () -> x.restore(1));
        check.that("the state is the other one", later.equals(Check.seen(x)));
        check.throwing("restore is no action", Check.STATE, x::undo);
        x.pass(5);
        check.due("the slot keeps it", 12, () -> x.restore(0));
        check.that("the state is the saved one again", saved.equals(Check.seen(x)));
    }

    private static void slotsAndActions() {
        RoadDust x = Check.loaded("R010h00");
        x.save(0);
        x.pass(4);
        check.due("save again into the same slot", 4, () -> x.save(0));
        x.pass(9);
        check.due("the newer one", 4, () -> x.restore(0));
        check.throwing("the other slot is empty", Check.STATE, () -> x.restore(1));
        x.clearText();
        Check.type(x, "R0300");
        check.due("the text is no part of the state", 4, () -> x.restore(0));
        check.due("its length", 5, x::clearText);
    }
}
