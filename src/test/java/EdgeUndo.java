import java.util.List;
import java.util.function.ToIntFunction;

/** The boundary cases of the promise 19, and of what an action is. */
final class EdgeUndo {
    private final Check check;

    EdgeUndo(Check check) {
        this.check = check;
    }

    void run() {
        check.sentence(19, "Throws IllegalStateException if none is remembered", this::noneRemembered);
        check.sentence(19, "Returns how many states are still remembered.", this::stillRemembered);
        check.sentence(19, "Takes back the last action that is remembered.", this::theLastFirst);
        check.sentence(0, "At most 14 states are remembered; when one more is remembered, the oldest one is forgotten.",
            this::oldestForgotten);
        check.sentence(0, "which consists of everything but the text and the save slots.", this::notTextAndSlots);
        check.sentence(0, "Each call of one of them that does not throw an exception is an action, also if nothing "
            + "becomes different (undo is none).", this::nothingDifferent);
        check.sentence(0, "Before each action, the state is remembered.", this::eachActionIsRemembered);
        check.sentence(0, "load and restore are not actions.", this::noActions);
        check.sentence(0, "what would be; these and all following methods up to the save slots change nothing.",
            this::othersChangeNothing);
    }

    private void noneRemembered() {
        RoadDust x = new RoadDust();
        check.throwing("in a new object", Check.STATE, x::undo);
        x.set(5, 1);
        x.undo();
        check.throwing("when the only action is taken back", Check.STATE, x::undo);
        check.throwing("once more", Check.STATE, x::undo);
        check.throwing("a refused action", Check.ARGUMENT, () -> x.set(5, 21));
        check.throwing("after a refused action", Check.STATE, x::undo);
        check.due("nothing was taken back", 10, () -> x.about(5));
        x.set(5, 2);
        x.save(0);
        x.restore(0);
        check.throwing("after a restore", Check.STATE, x::undo);
        x.set(5, 3);
        Check.type(x, "R010");
        x.load();
        check.throwing("after a load", Check.STATE, x::undo);
    }

    private static RoadDust lorries(int actions) {
        RoadDust x = new RoadDust();
        for (int k = 1; k <= actions; k++) {
            x.set(5, k % 21);
        }
        return x;
    }

    private void stillRemembered() {
        for (int actions : new int[] {1, 2, 13, 14, 15, 16, 30}) {
            RoadDust x = lorries(actions);
            int most = Math.min(14, actions);
            for (int k = most - 1; k >= 0; k--) {
                check.due("undo of " + actions + " actions", k, x::undo);
            }
            check.throwing("undo beyond " + actions + " actions", Check.STATE, x::undo);
        }
    }

    private void theLastFirst() {
        RoadDust x = lorries(3);
        x.undo();
        check.due("the third is taken back", 2, () -> x.about(5));
        x.set(5, 20);
        x.undo();
        check.due("an action after an undo is taken back", 2, () -> x.about(5));
        x.undo();
        check.due("the second is taken back", 1, () -> x.about(5));
        x.undo();
        check.due("the first is taken back", 10, () -> x.about(5));
    }

    private void oldestForgotten() {
        int[] actions = {13, 14, 15, 16, 28, 29, 43};
        int[] oldest = {10, 10, 1, 2, 14, 15, 29 % 21};
        for (int k = 0; k < actions.length; k++) {
            RoadDust x = lorries(actions[k]);
            int want = oldest[k];
            int most = Math.min(14, actions[k]);
            for (int left = 0; left < most; left++) {
                x.undo();
            }
            check.due("the oldest state of " + actions[k] + " actions", want, () -> x.about(5));
            check.throwing("none before it of " + actions[k], Check.STATE, x::undo);
        }
        RoadDust x = lorries(14);
        check.throwing("a refused action", Check.ARGUMENT, () -> x.pass(0));
        for (int k = 0; k < 14; k++) {
            x.undo();
        }
        check.due("a refused action lets none be forgotten", 10, () -> x.about(5));
        RoadDust y = lorries(14);
        y.undo();
        y.set(5, 20);
        for (int k = 0; k < 14; k++) {
            y.undo();
        }
        check.due("nor does one in the place of one taken back", 10, () -> y.about(5));
    }

    private void notTextAndSlots() {
        RoadDust x = new RoadDust();
        x.set(5, 1);
        Check.type(x, "R010");
        x.save(0);
        x.pass(3);
        x.save(1);
        check.due("undo of the hours", 1, x::undo);
        check.due("undo of the lorries", 0, x::undo);
        check.due("the text stays", RoadDust.NONE, x::errorPosition);
        check.due("the newer slot stays", 3, () -> x.restore(1));
        check.due("its lorries", 1, () -> x.about(5));
        check.due("the older slot stays", 0, () -> x.restore(0));
        check.due("its lorries, too", 1, () -> x.about(5));
        x.pass(1);
        x.clearText();
        x.undo();
        check.due("an emptied text stays empty", 0, x::clearText);
    }

    private void nothingDifferent() {
        same("setSurface", x -> x.setSurface(0, 1));
        same("setLimit", x -> x.setLimit(1, 3));
        same("set of the lorries", x -> x.set(5, 10));
        same("set of the sun", x -> x.set(6, 5));
        same("set of the bound", x -> x.set(7, 50));
        same("set of the right", x -> x.set(8, 40));
        same("drive", x -> x.drive(0, 0));
        RoadDust x = new RoadDust();
        x.set(5, 1);
        x.undo();
        check.throwing("undo is no action", Check.STATE, x::undo);
    }

    /** An action that leaves everything as it is, behind another action. */
    private void same(String name, ToIntFunction<RoadDust> action) {
        RoadDust x = Check.loaded("R0212w0");
        x.pass(1);
        String before = Check.seen(x);
        action.applyAsInt(x);
        check.that(name + " makes a difference", before.equals(Check.seen(x)));
        check.due("undo of " + name, 1, x::undo);
        check.that("undo of " + name + " makes a difference", before.equals(Check.seen(x)));
        check.due("undo of the action before it", 0, x::undo);
        check.due("the hour then", 0, () -> x.about(4));
    }

    private void eachActionIsRemembered() {
        RoadDust x = Check.loaded("R0200w0");
        remembered(x, () -> x.addHouse(0, 0), () -> x.addWagon(0), () -> x.setSurface(0, 1), () -> x.setLimit(0, 4),
            () -> x.set(8, 99));
        RoadDust y = Check.loaded("R0200w0");
        remembered(y, () -> y.spray(0, 9), () -> y.fill(0), () -> y.drive(0, 1), () -> y.pass(50));
    }

    private void remembered(RoadDust x, Runnable... actions) {
        String[] before = new String[actions.length];
        for (int k = 0; k < actions.length; k++) {
            before[k] = Check.seen(x);
            actions[k].run();
        }
        for (int k = actions.length - 1; k >= 0; k--) {
            int left = k;
            check.due("undo with " + left + " before it", left, x::undo);
            check.that("not the state before the action " + left, before[left].equals(Check.seen(x)));
        }
        check.throwing("no other state", Check.STATE, x::undo);
    }

    private void noActions() {
        RoadDust x = new RoadDust();
        Check.type(x, "R010h00");
        x.load();
        check.throwing("undo of a load", Check.STATE, x::undo);
        x.pass(1);
        x.save(0);
        x.save(1);
        check.due("save is none", 0, x::undo);
        x.restore(0);
        check.throwing("undo of a restore", Check.STATE, x::undo);
        x.restore(1);
        check.throwing("undo of another restore", Check.STATE, x::undo);
        check.due("the hour", 1, () -> x.about(4));
    }

    private void othersChangeNothing() {
        List<ToIntFunction<RoadDust>> calls = List.of(
            x -> x.whyNoFill(0), x -> x.ahead(0, 20), x -> x.waterFor(0), x -> x.limitFor(1), x -> x.bestSpray(0, 9),
            x -> x.complainsIn(0), x -> x.dustiest(), x -> x.runScript(4, 1050200130014000L), x -> x.simulate(-1L, 99),
            x -> x.errorPosition());
        for (int k = 0; k < calls.size(); k++) {
            RoadDust x = Check.loaded("R03012h00h19w0w2");
            x.set(7, 30);
            x.spray(0, 9);
            x.pass(11);
            String before = Check.seen(x);
            calls.get(k).applyAsInt(x);
            check.that("the call " + k + " changes something", before.equals(Check.seen(x)));
            check.due("the call " + k + " is an action", 2, x::undo);
            check.due("the hour before the eleven ones", 0, () -> x.about(4));
        }
    }
}
