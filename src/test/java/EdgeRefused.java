import java.util.ArrayList;
import java.util.List;
import java.util.function.Supplier;
import java.util.function.ToIntFunction;

/** Every call that is refused, what it throws, and that nothing has changed then. */
final class EdgeRefused {
    private static final int LEAST = Integer.MIN_VALUE;
    private static final int MOST = Integer.MAX_VALUE;
    private static final Class<? extends RuntimeException> INDEX = Check.INDEX;
    private static final Class<? extends RuntimeException> ARGUMENT = Check.ARGUMENT;
    private static final Class<? extends RuntimeException> STATE = Check.STATE;
    private final Check check;
    private final List<Refused> calls = new ArrayList<>();

    /** A call, the road on which it is refused, and what it throws. */
    private record Refused(String name, Supplier<RoadDust> road, Class<? extends RuntimeException> thrown,
            ToIntFunction<RoadDust> call) {
    }

    EdgeRefused(Check check) {
        this.check = check;
        refusedTexts();
        refusedLooks();
        refusedBuildings();
        refusedChanges();
        refusedWagons();
        refusedHours();
        refusedTrials();
        refusedSlots();
    }

    void run() {
        check.sentence(0, "IndexOutOfBoundsException means that a segment, a house or a wagon does not exist, or that a "
            + "save slot is not 0 or 1.", () -> thrown(INDEX));
        check.sentence(0, "IllegalArgumentException means that another argument is out of its range.",
            () -> thrown(ARGUMENT));
        check.sentence(0, "IllegalStateException means what the method says.", () -> thrown(STATE));
        check.sentence(0, "If several exceptions apply to a call, the one that its description names first is thrown.",
            this::severalApply);
        check.sentence(0, "A call that throws an exception changes nothing.", this::nothingChanges);
    }

    // ---- roads

    /** A road in use: three remembered states, a text that is a road and two save slots. */
    private static RoadDust used() {
        RoadDust x = Check.loaded("R0200h00w0w1");
        x.spray(0, 9);
        x.save(0);
        x.pass(3);
        x.save(1);
        x.spray(1, 4);
        return x;
    }

    /** The same without a road in its text, and without save slots. */
    private static RoadDust spoilt() {
        RoadDust x = Check.loaded("R0200h00w0w1");
        x.pass(3);
        x.append('w');
        return x;
    }

    private static RoadDust full() {
        RoadDust x = Check.loaded("R010" + "h00".repeat(8) + "w0w0w0");
        x.pass(2);
        return x;
    }

    private static RoadDust fullText() {
        RoadDust x = used();
        x.clearText();
        Check.type(x, "R".repeat(70));
        return x;
    }

    /** The segment 0 has the rank 1. */
    private static RoadDust ranked() {
        RoadDust x = Check.loaded("R0200h00h00h00");
        x.pass(1);
        return x;
    }

    /** The wagon 0 has no moves and no liters, and the wagon 1 has no moves and is in no filling place. */
    private static RoadDust tired() {
        RoadDust x = Check.loaded("R0200w0w1");
        for (int k = 0; k < 4; k++) {
            x.spray(0, 5);
            x.spray(1, 1);
        }
        return x;
    }

    private static RoadDust withoutRight() {
        RoadDust x = Check.loaded("R010w0");
        x.spray(0, 9);
        x.set(8, 0);
        return x;
    }

    private static RoadDust bare() {
        return new RoadDust();
    }

    // ---- the calls

    private void add(String name, Supplier<RoadDust> road, Class<? extends RuntimeException> thrown,
            ToIntFunction<RoadDust> call) {
        calls.add(new Refused(name, road, thrown, call));
    }

    private void refusedTexts() {
        for (int c : new int[] {LEAST, -1, 256, MOST}) {
            add("append " + c, EdgeRefused::used, ARGUMENT, x -> x.append(c));
            add("append to a full text " + c, EdgeRefused::fullText, ARGUMENT, x -> x.append(c));
        }
        add("append to a full text", EdgeRefused::fullText, STATE, x -> x.append('R'));
        add("load of no road", EdgeRefused::spoilt, STATE, x -> x.load());
        add("load of an empty text", EdgeRefused::bare, STATE, x -> x.load());
        add("load of a full text", EdgeRefused::fullText, STATE, x -> x.load());
    }

    private void refusedLooks() {
        for (int what : new int[] {LEAST, -1, 13, MOST}) {
            add("about " + what, EdgeRefused::used, ARGUMENT, x -> x.about(what));
            add("segment 0, " + what, EdgeRefused::used, ARGUMENT, x -> x.segment(0, what));
            add("house 0, " + what, EdgeRefused::used, ARGUMENT, x -> x.house(0, what));
            add("wagon 0, " + what, EdgeRefused::used, ARGUMENT, x -> x.wagon(0, what));
            add("segment 2, " + what, EdgeRefused::used, INDEX, x -> x.segment(2, what));
            add("house 1, " + what, EdgeRefused::used, INDEX, x -> x.house(1, what));
            add("wagon 2, " + what, EdgeRefused::used, INDEX, x -> x.wagon(2, what));
        }
        add("segment 1, 7", EdgeRefused::used, ARGUMENT, x -> x.segment(1, 7));
        add("house 0, 5", EdgeRefused::used, ARGUMENT, x -> x.house(0, 5));
        add("wagon 1, 3", EdgeRefused::used, ARGUMENT, x -> x.wagon(1, 3));
        for (int k : new int[] {LEAST, -1, 10, MOST}) {
            add("segment " + k, EdgeRefused::used, INDEX, x -> x.segment(k, 0));
            add("house " + k, EdgeRefused::used, INDEX, x -> x.house(k, 0));
            add("wagon " + k, EdgeRefused::used, INDEX, x -> x.wagon(k, 0));
        }
        add("house 8 of 8", EdgeRefused::full, INDEX, x -> x.house(8, 0));
        add("wagon 3 of 3", EdgeRefused::full, INDEX, x -> x.wagon(3, 0));
        add("house 0 of none", EdgeRefused::bare, INDEX, x -> x.house(0, 0));
        add("wagon 0 of none", EdgeRefused::bare, INDEX, x -> x.wagon(0, 0));
    }

    private void refusedBuildings() {
        for (int s : new int[] {LEAST, -1, 2, 10, MOST}) {
            add("addHouse beside " + s, EdgeRefused::used, INDEX, x -> x.addHouse(s, 0));
            add("addHouse beside " + s + ", too far", EdgeRefused::used, INDEX, x -> x.addHouse(s, 10));
            add("addHouse beside " + s + ", a ninth one", EdgeRefused::full, INDEX, x -> x.addHouse(s, 0));
            add("addHouse beside " + s + ", too far, a ninth one", EdgeRefused::full, INDEX, x -> x.addHouse(s, -1));
            add("addWagon in " + s, EdgeRefused::used, INDEX, x -> x.addWagon(s));
            add("addWagon in " + s + ", a fourth one", EdgeRefused::full, INDEX, x -> x.addWagon(s));
        }
        for (int distance : new int[] {LEAST, -1, 10, MOST}) {
            add("addHouse, distance " + distance, EdgeRefused::used, ARGUMENT, x -> x.addHouse(1, distance));
            add("addHouse, distance " + distance + ", a ninth one", EdgeRefused::full, ARGUMENT,
                x -> x.addHouse(0, distance));
        }
        add("addHouse, a ninth one", EdgeRefused::full, STATE, x -> x.addHouse(0, 9));
        add("addWagon, a fourth one", EdgeRefused::full, STATE, x -> x.addWagon(0));
    }

    private void refusedChanges() {
        for (int s : new int[] {LEAST, -1, 2, 10, MOST}) {
            add("setSurface of " + s, EdgeRefused::used, INDEX, x -> x.setSurface(s, 0));
            add("setSurface of " + s + ", no surface", EdgeRefused::used, INDEX, x -> x.setSurface(s, 3));
            add("setLimit of " + s, EdgeRefused::used, INDEX, x -> x.setLimit(s, 1));
            add("setLimit of " + s + ", no limit", EdgeRefused::ranked, INDEX, x -> x.setLimit(s, 6));
        }
        for (int surface : new int[] {LEAST, -1, 3, MOST}) {
            add("setSurface " + surface, EdgeRefused::used, ARGUMENT, x -> x.setSurface(1, surface));
        }
        for (int limit : new int[] {LEAST, -1, 0, 6, MOST}) {
            add("setLimit " + limit, EdgeRefused::used, ARGUMENT, x -> x.setLimit(1, limit));
            add("setLimit " + limit + " at the rank 1", EdgeRefused::ranked, ARGUMENT, x -> x.setLimit(0, limit));
        }
        add("setLimit 5 at the rank 1", EdgeRefused::ranked, STATE, x -> x.setLimit(0, 5));
        add("setLimit 2 at the rank 4", EdgeRefused::full, STATE, x -> x.setLimit(0, 2));
        for (int what : new int[] {LEAST, -1, 0, 4, 9, 12, 13, MOST}) {
            add("set " + what, EdgeRefused::used, ARGUMENT, x -> x.set(what, 1));
        }
        int[] most = {20, 9, 200, 99};
        for (int k = 0; k < 4; k++) {
            int what = k + 5;
            int high = most[k];
            for (int v : new int[] {LEAST, -1, what == 7 ? 0 : -2, high + 1, MOST}) {
                add("set " + what + " to " + v, EdgeRefused::used, ARGUMENT, x -> x.set(what, v));
            }
        }
    }

    private void refusedWagons() {
        for (int w : new int[] {LEAST, -1, 2, 3, MOST}) {
            add("drive " + w, EdgeRefused::used, INDEX, x -> x.drive(w, 0));
            add("drive " + w + " to nowhere", EdgeRefused::used, INDEX, x -> x.drive(w, 2));
            add("spray " + w, EdgeRefused::used, INDEX, x -> x.spray(w, 1));
            add("spray " + w + ", no liters", EdgeRefused::used, INDEX, x -> x.spray(w, 0));
            add("fill " + w, EdgeRefused::used, INDEX, x -> x.fill(w));
            add("whyNoFill " + w, EdgeRefused::used, INDEX, x -> x.whyNoFill(w));
            add("bestSpray " + w, EdgeRefused::used, INDEX, x -> x.bestSpray(w, 1));
            add("bestSpray " + w + ", no liters", EdgeRefused::used, INDEX, x -> x.bestSpray(w, 10));
        }
        for (int s : new int[] {LEAST, -1, 2, 10, MOST}) {
            add("drive to " + s, EdgeRefused::used, INDEX, x -> x.drive(0, s));
            add("drive to " + s + " without a move", EdgeRefused::tired, INDEX, x -> x.drive(0, s));
        }
        for (int liters : new int[] {LEAST, -1, 0, 10, MOST}) {
            add("spray " + liters + " liters", EdgeRefused::used, ARGUMENT, x -> x.spray(0, liters));
            add("spray " + liters + " liters, no moves, no liters", EdgeRefused::tired, ARGUMENT,
                x -> x.spray(0, liters));
            add("bestSpray of " + liters, EdgeRefused::used, ARGUMENT, x -> x.bestSpray(0, liters));
            add("bestSpray of " + liters + ", no moves, no liters", EdgeRefused::tired, ARGUMENT,
                x -> x.bestSpray(0, liters));
        }
        add("drive without a move", EdgeRefused::tired, STATE, x -> x.drive(0, 1));
        add("spray without moves and liters", EdgeRefused::tired, STATE, x -> x.spray(0, 1));
        add("spray without a move", EdgeRefused::tired, STATE, x -> x.spray(1, 1));
        add("fill without a move", EdgeRefused::tired, STATE, x -> x.fill(0));
        add("fill without a move in no filling place", EdgeRefused::tired, STATE, x -> x.fill(1));
        add("fill in no filling place", EdgeRefused::used, STATE, x -> x.fill(1));
        add("fill of a full tank", EdgeRefused::full, STATE, x -> x.fill(2));
        add("fill without a right", EdgeRefused::withoutRight, STATE, x -> x.fill(0));
    }

    private void refusedHours() {
        for (int hours : new int[] {LEAST, -1, 0, 51, MOST}) {
            add("pass " + hours, EdgeRefused::used, ARGUMENT, x -> x.pass(hours));
        }
        add("undo of nothing", EdgeRefused::bare, STATE, x -> x.undo());
    }

    private void refusedTrials() {
        for (int i : new int[] {LEAST, -1, 1, 8, MOST}) {
            add("ahead " + i, EdgeRefused::used, INDEX, x -> x.ahead(i, 1));
            add("ahead " + i + ", no hours", EdgeRefused::used, INDEX, x -> x.ahead(i, 0));
            add("waterFor " + i, EdgeRefused::used, INDEX, x -> x.waterFor(i));
            add("limitFor " + i, EdgeRefused::used, INDEX, x -> x.limitFor(i));
            add("complainsIn " + i, EdgeRefused::used, INDEX, x -> x.complainsIn(i));
        }
        for (int hours : new int[] {LEAST, -1, 0, 21, MOST}) {
            add("ahead, hours " + hours, EdgeRefused::used, ARGUMENT, x -> x.ahead(0, hours));
        }
        for (int n : new int[] {LEAST, -1, 0, 5, MOST}) {
            add("runScript of " + n, EdgeRefused::used, ARGUMENT, x -> x.runScript(n, 1001L));
            add("runScript of " + n + ", negative", EdgeRefused::used, ARGUMENT, x -> x.runScript(n, -1L));
        }
        for (long script : new long[] {Long.MIN_VALUE, -1L, 100000000L, Long.MAX_VALUE}) {
            add("runScript " + script, EdgeRefused::used, ARGUMENT, x -> x.runScript(2, script));
        }
        for (int m : new int[] {LEAST, -1, 0, 100, MOST}) {
            add("simulate " + m, EdgeRefused::used, ARGUMENT, x -> x.simulate(1L, m));
        }
    }

    private void refusedSlots() {
        for (int slot : new int[] {LEAST, -1, 2, MOST}) {
            add("save " + slot, EdgeRefused::used, INDEX, x -> x.save(slot));
            add("restore " + slot, EdgeRefused::used, INDEX, x -> x.restore(slot));
            add("restore " + slot + ", nothing saved", EdgeRefused::spoilt, INDEX, x -> x.restore(slot));
        }
        add("restore 0, nothing saved", EdgeRefused::spoilt, STATE, x -> x.restore(0));
        add("restore 1, nothing saved", EdgeRefused::spoilt, STATE, x -> x.restore(1));
    }

    // ---- the tests

    private void thrown(Class<? extends RuntimeException> exception) {
        for (Refused refused : calls) {
            if (refused.thrown == exception) {
                RoadDust x = refused.road.get();
                check.throwing(refused.name, exception, () -> refused.call.applyAsInt(x));
            }
        }
    }

    private void severalApply() {
        RoadDust x = full();
        check.throwing("no segment, no distance, a ninth house", INDEX, () -> x.addHouse(1, 10));
        check.throwing("no distance, a ninth house", ARGUMENT, () -> x.addHouse(0, 10));
        check.throwing("a ninth house", STATE, () -> x.addHouse(0, 9));
        check.throwing("no segment, a fourth wagon", INDEX, () -> x.addWagon(1));
        check.throwing("no segment, no surface", INDEX, () -> x.setSurface(1, 3));
        check.throwing("no segment, no limit", INDEX, () -> x.setLimit(1, 6));
        check.throwing("no limit at any rank", ARGUMENT, () -> x.setLimit(0, 6));
        check.throwing("no segment, no number", INDEX, () -> x.segment(1, 7));
        check.throwing("no house, no number", INDEX, () -> x.house(8, 5));
        check.throwing("no wagon, no number", INDEX, () -> x.wagon(3, 3));
        check.throwing("no house, no hours", INDEX, () -> x.ahead(8, 21));
        RoadDust y = tired();
        check.throwing("no segment, no moves", INDEX, () -> y.drive(0, 2));
        check.throwing("no wagon, no liters", INDEX, () -> y.spray(2, 10));
        check.throwing("no such liters, no moves, an empty tank", ARGUMENT, () -> y.spray(0, 10));
        check.throwing("no wagon, no such liters", INDEX, () -> y.bestSpray(2, 10));
        RoadDust z = fullText();
        check.throwing("no character, a full text", ARGUMENT, () -> z.append(256));
        RoadDust none = new RoadDust();
        check.throwing("no slot, nothing saved", INDEX, () -> none.restore(2));
    }

    private void nothingChanges() {
        for (Refused refused : calls) {
            RoadDust x = refused.road.get();
            check.throwing(refused.name, refused.thrown, () -> refused.call.applyAsInt(x));
            String want = everything(refused.road.get());
            check.that(refused.name + " changes something", want.equals(everything(x)));
        }
        for (int actions : new int[] {13, 14, 15, 16, 29}) {
            remembered(actions, ARGUMENT, x -> x.pass(0));
            remembered(actions, INDEX, x -> x.addHouse(4, 0));
            remembered(actions, INDEX, x -> x.addWagon(-1));
            remembered(actions, ARGUMENT, x -> x.setSurface(0, 3));
            remembered(actions, ARGUMENT, x -> x.setLimit(0, 6));
            remembered(actions, ARGUMENT, x -> x.set(9, 0));
            remembered(actions, INDEX, x -> x.drive(0, 0));
            remembered(actions, INDEX, x -> x.spray(0, 1));
            remembered(actions, INDEX, x -> x.fill(0));
            remembered(actions, STATE, x -> x.restore(0));
            remembered(actions, STATE, x -> x.load());
        }
    }

    /** A call that is refused twice behind so many actions leaves all of the remembered states as they are. */
    private void remembered(int actions, Class<? extends RuntimeException> thrown, ToIntFunction<RoadDust> call) {
        RoadDust x = new RoadDust();
        for (int k = 1; k <= actions; k++) {
            x.set(8, 40 + k);
        }
        check.throwing("a call behind " + actions + " actions", thrown, () -> call.applyAsInt(x));
        check.throwing("again behind " + actions + " actions", thrown, () -> call.applyAsInt(x));
        int most = Math.min(14, actions);
        for (int k = 1; k <= most; k++) {
            int left = most - k;
            int right = 40 + actions - k;
            check.due("undo of " + actions + " actions", left, x::undo);
            check.due("the water right then", right, () -> x.about(8));
        }
        check.throwing("undo beyond " + actions + " actions", STATE, x::undo);
    }

    /** All that one can learn of an object, save slots, text and remembered states included; it is spent then. */
    private static String everything(RoadDust x) {
        StringBuilder line = new StringBuilder(Check.seen(x));
        line.append("| ").append(x.errorPosition());
        int count = answered(x, y -> y.undo());
        while (count != NOT_ANSWERED) {
            line.append("| undo ").append(count).append(' ').append(Check.seen(x));
            count = answered(x, y -> y.undo());
        }
        for (int slot = 0; slot < 2; slot++) {
            int k = slot;
            int time = answered(x, y -> y.restore(k));
            line.append("| slot ").append(time);
            if (time != NOT_ANSWERED) {
                line.append(' ').append(Check.seen(x));
            }
        }
        line.append("| load ").append(answered(x, y -> y.load()));
        return line.append("| text ").append(x.clearText()).toString();
    }

    private static final int NOT_ANSWERED = -1000;

    private static int answered(RoadDust x, ToIntFunction<RoadDust> call) {
        try {
            return call.applyAsInt(x);
        } catch (IllegalStateException e) {
            return NOT_ANSWERED;
        }
    }
}
