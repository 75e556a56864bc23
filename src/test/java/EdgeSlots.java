/** The boundary cases of the promises 29 and 30: the save slots. */
final class EdgeSlots {
    private static final int[] NONE_SUCH = {Integer.MIN_VALUE, RoadDust.NONE, -1, 2, 3, 10, Integer.MAX_VALUE};
    private final Check check;

    EdgeSlots(Check check) {
        this.check = check;
    }

    void run() {
        check.sentence(29, "slot: 0 or 1", this::bothSlots);
        check.sentence(29, "Stores the present state in a save slot.", this::storedTwice);
        check.sentence(29, "Returns 10 * day + hour.", this::timeOfTheSave);
        check.sentence(29, "Throws IndexOutOfBoundsException if there is no such save slot", this::saveNowhere);
        check.sentence(30, "slot: 0 or 1", this::eachSlotItsState);
        check.sentence(30, "Replaces the state by the one in a save slot, and forgets all remembered states.",
            this::replacedAndForgotten);
        check.sentence(30, "The save slot keeps it.", this::slotKeepsIt);
        check.sentence(30, "Returns 10 * day + hour then.", this::timeOfTheRestore);
        check.sentence(30, "Throws IndexOutOfBoundsException if there is no such save slot", this::restoreNowhere);
        check.sentence(30, "Throws IllegalStateException if nothing has been saved in it since the last load",
            this::emptySlots);
    }

    private void bothSlots() {
        RoadDust x = new RoadDust();
        check.due("the first", 0, () -> x.save(0));
        x.pass(1);
        check.due("the last", 1, () -> x.save(1));
        check.due("restore of the first", 0, () -> x.restore(0));
        check.due("restore of the last", 1, () -> x.restore(1));
    }

    private void storedTwice() {
        RoadDust x = new RoadDust();
        x.save(0);
        x.pass(1);
        x.save(1);
        x.pass(1);
        check.due("once more into the first", 2, () -> x.save(0));
        check.due("the newer state is in it", 2, () -> x.restore(0));
        check.due("the other one has its own", 1, () -> x.restore(1));
        x.pass(3);
        check.due("once more into the last", 4, () -> x.save(1));
        check.due("the newer state is in it, too", 4, () -> x.restore(1));
        check.due("and the first has its own", 2, () -> x.restore(0));
        check.due("save does not forget what is remembered", 1, () -> {
            x.pass(1);
            x.pass(1);
            x.save(0);
            return x.undo();
        });
    }

    private void timeOfTheSave() {
        RoadDust x = new RoadDust();
        check.due("at first", 0, () -> x.save(0));
        x.pass(9);
        check.due("in the last hour of the day 0", 9, () -> x.save(0));
        x.pass(1);
        check.due("in the first hour of the day 1", 10, () -> x.save(0));
        x.pass(50);
        x.pass(39);
        check.due("in the last hour of the day 9", 99, () -> x.save(1));
        x.pass(1);
        check.due("in the first hour of the day 10", 100, () -> x.save(1));
    }

    private void saveNowhere() {
        RoadDust x = new RoadDust();
        for (int slot : NONE_SUCH) {
            check.throwing("save " + slot, Check.INDEX, () -> x.save(slot));
        }
        check.throwing("the first is empty", Check.STATE, () -> x.restore(0));
        check.throwing("the last is empty", Check.STATE, () -> x.restore(1));
    }

    private void eachSlotItsState() {
        RoadDust x = Check.loaded("R0200h00w1");
        String first = Check.seen(x);
        x.save(0);
        x.spray(0, 9);
        x.addHouse(1, 1);
        x.pass(12);
        String second = Check.seen(x);
        x.save(1);
        x.restore(0);
        check.that("the slot 0 has not its state", first.equals(Check.seen(x)));
        x.restore(1);
        check.that("the slot 1 has not its state", second.equals(Check.seen(x)));
        check.due("the newer house", 2, () -> x.about(1));
        x.restore(0);
        check.that("the slot 0 has not its state any more", first.equals(Check.seen(x)));
        check.throwing("no newer house", Check.INDEX, () -> x.house(1, 0));
    }

    private void replacedAndForgotten() {
        for (int actions : new int[] {0, 1, 14, 15}) {
            RoadDust x = new RoadDust();
            x.save(1);
            for (int k = 0; k < actions; k++) {
                x.pass(1);
            }
            check.due("restore behind " + actions + " actions", 0, () -> x.restore(1));
            check.throwing("undo behind " + actions + " actions", Check.STATE, x::undo);
            check.due("the hour", 0, () -> x.about(4));
            x.pass(1);
            check.due("undo of the first action after it", 0, x::undo);
        }
        RoadDust text = new RoadDust();
        text.save(0);
        Check.type(text, "R010");
        text.restore(0);
        check.due("the text is no part of it", 4, text::clearText);
    }

    private void slotKeepsIt() {
        RoadDust x = Check.loaded("R0200h00w1");
        x.pass(7);
        x.save(0);
        String saved = Check.seen(x);
        for (int k = 0; k < 3; k++) {
            x.setSurface(0, 2);
            x.spray(0, 9);
            x.set(7, 1);
            x.pass(50);
            check.due("restore " + k, 7, () -> x.restore(0));
            check.that("not the saved state at the restore " + k, saved.equals(Check.seen(x)));
        }
        x.pass(1);
        x.undo();
        check.due("after an undo", 7, () -> x.restore(0));
        x.simulate(1L, 99);
        x.runScript(1, 1050L);
        check.due("after a simulation", 7, () -> x.restore(0));
    }

    private void timeOfTheRestore() {
        RoadDust x = new RoadDust();
        x.pass(9);
        x.save(0);
        x.pass(1);
        x.save(1);
        check.due("a last hour", 9, () -> x.restore(0));
        check.due("the hour then", 9, () -> x.about(4));
        check.due("a first hour", 10, () -> x.restore(1));
        check.due("the day then", 1, () -> x.about(3));
        x.pass(50);
        x.save(0);
        x.pass(50);
        check.due("a later day", 60, () -> x.restore(0));
    }

    private void restoreNowhere() {
        RoadDust x = new RoadDust();
        x.pass(3);
        x.save(0);
        x.save(1);
        x.pass(1);
        for (int slot : NONE_SUCH) {
            check.throwing("restore " + slot, Check.INDEX, () -> x.restore(slot));
        }
        check.due("the state stays", 4, () -> x.about(4));
        check.due("what is remembered stays", 1, x::undo);
    }

    private void emptySlots() {
        RoadDust x = new RoadDust();
        check.throwing("the first of a new object", Check.STATE, () -> x.restore(0));
        check.throwing("the last of a new object", Check.STATE, () -> x.restore(1));
        x.save(0);
        check.throwing("the last, when the first is saved", Check.STATE, () -> x.restore(1));
        RoadDust y = new RoadDust();
        y.save(1);
        check.throwing("the first, when the last is saved", Check.STATE, () -> y.restore(0));
        Check.type(y, "R010");
        y.save(0);
        y.load();
        check.throwing("the first after a load", Check.STATE, () -> y.restore(0));
        check.throwing("the last after a load", Check.STATE, () -> y.restore(1));
        y.save(1);
        check.throwing("the first after a load and a save in the last", Check.STATE, () -> y.restore(0));
        check.due("the last after it", 0, () -> y.restore(1));
        y.append('x');
        check.throwing("no road", Check.STATE, y::load);
        check.due("a refused load empties none", 0, () -> y.restore(1));
        check.due("the road of the load", 1, () -> y.about(0));
    }
}
