/** The promises 27 and 28: runScript, simulate. */
public final class ScriptTest {
    private static final Check check = new Check();

    public static void main(String[] args) {
        promise27Ranges();
        promise27EachCommand();
        promise27Groups();
        promise27Sequence();
        promise28Ranges();
        promise28ByHand();
        promise28AsActions();
        check.end();
    }

    private static void promise27Ranges() {
        RoadDust x = new RoadDust();
        int[] wrong = {0, -1, 5, Integer.MIN_VALUE, Integer.MAX_VALUE};
        for (int n : wrong) {
            check.throwing("n " + n, Check.ARGUMENT, () -> x.runScript(n, 1001L));
        }
        check.throwing("a negative script", Check.ARGUMENT, () -> x.runScript(1, -1L));
        check.throwing("the least long", Check.ARGUMENT, () -> x.runScript(4, Long.MIN_VALUE));
        check.throwing("the greatest long", Check.ARGUMENT, () -> x.runScript(4, Long.MAX_VALUE));
        check.throwing("five digits for one", Check.ARGUMENT, () -> x.runScript(1, 10000L));
        check.throwing("nine digits for two", Check.ARGUMENT, () -> x.runScript(2, 100000000L));
        check.throwing("13 digits for three", Check.ARGUMENT, () -> x.runScript(3, 1000000000000L));
        check.throwing("17 digits for four", Check.ARGUMENT, () -> x.runScript(4, 10000000000000000L));
        check.due("16 digits for four", 0, () -> x.runScript(4, 9999999999999999L));
        check.due("no digits", 0, () -> x.runScript(4, 0L));
        check.due("zeros before it", 0, () -> x.runScript(2, 1001L));
        check.due("one command", RoadDust.NONE, () -> x.runScript(1, 1001L));
    }

    private static void command(RoadDust x, int command, boolean succeeds) {
        int want = succeeds ? RoadDust.NONE : 0;
        check.due("command " + command, want, () -> x.runScript(1, command));
    }

    private static void commands(RoadDust x, boolean succeed, int... list) {
        for (int one : list) {
            command(x, one, succeed);
        }
    }

    private static void promise27EachCommand() {
        RoadDust x = Check.loaded("R06000000h00w0w5");
        x.spray(0, 9);
        x.spray(0, 5);
        x.pass(1);
        // The house 0 has one complaint; the dust of the segments 3 to 5 is 67; the wagon 0 has 6 liters.
        commands(x, true, 1001, 1050, 1010);
        commands(x, false, 1000, 1051, 1099, 1101, 1901);
        commands(x, true, 2000, 2004, 2101, 2105);
        commands(x, false, 2005, 2100, 2006, 2010, 2014, 2200, 2900);
        commands(x, true, 3001, 3006, 3109);
        commands(x, false, 3000, 3007, 3011, 3100, 3201);
        commands(x, true, 4000);
        commands(x, false, 4100, 4200, 4001, 4010);
        commands(x, true, 5001, 5005, 5505);
        commands(x, false, 5000, 5006, 5601, 5011);
        commands(x, true, 6000, 6002, 6501);
        commands(x, false, 6003, 6600, 6010, 6011);
        commands(x, true, 7000, 7010, 7020);
        commands(x, false, 7021, 7099, 7100, 7920);
        commands(x, true, 8001, 8099);
        commands(x, false, 8000, 8100, 8900);
        commands(x, true, 9307, 9399, 9507);
        commands(x, false, 9306, 9300, 9600, 9999);
        commands(x, false, 0, 1, 999, 900);
        x.set(5, 0);
        commands(x, true, 7000, 7001, 7020);
        RoadDust y = Check.loaded("R100000000000h00");
        commands(y, true, 8099, 9999, 9900);
        commands(y, false, 8999, 8199);
    }

    private static void promise27Groups() {
        RoadDust x = Check.loaded("R0200h00h00h00w0");
        x.setLimit(0, 5);
        x.pass(1);
        check.due("rank", 1, () -> x.segment(0, 2));
        command(x, 5004, true);
        command(x, 5005, false);
        command(x, 8000, false);
        command(x, 8001, true);
        // The dust of the segment 0 is 150 * 3 / 4 = 112.
        command(x, 9011, false);
        command(x, 9012, true);
        RoadDust y = Check.loaded("R010");
        y.set(5, 1);
        y.setLimit(0, 4);
        y.set(6, 0);
        y.pass(1);
        check.due("dust", 9, () -> y.segment(0, 3));
        command(y, 9000, false);
        command(y, 9001, true);
    }

    private static void promise27Sequence() {
        RoadDust x = Check.loaded("R03000h00w0");
        check.due("all succeed", RoadDust.NONE, () -> x.runScript(4, 3009400030091001L));
        check.due("the third fails: its tank is full again", 2, () -> x.runScript(4, 3009400040001001L));
        check.due("the last fails", 3, () -> x.runScript(4, 2001300120002009L));
        check.due("moves are used up", 2, () -> x.runScript(3, 200220003001L));
        check.due("an hour brings moves", RoadDust.NONE, () -> x.runScript(4, 2002200010013001L));
        check.due("lorries that come no more", RoadDust.NONE, () -> x.runScript(3, 700010509000L));
        check.due("complaints in an hour", 1, () -> x.runScript(2, 10018000L));
        check.due("a paved road", 2, () -> x.runScript(3, 600210019001L));
        check.due("the limit of a rank", 1, () -> x.runScript(2, 10505005L));
        check.due("the first that fails", 0, () -> x.runScript(3, 100010002000L));
        check.due("nothing is an action", 0, () -> x.about(4));
        check.throwing("nothing is remembered", Check.STATE, x::undo);
    }

    private static void promise28Ranges() {
        RoadDust x = new RoadDust();
        int[] wrong = {0, -1, 100, Integer.MIN_VALUE, Integer.MAX_VALUE};
        for (int m : wrong) {
            check.throwing("simulate " + m, Check.ARGUMENT, () -> x.simulate(0L, m));
        }
        check.due("no houses", 0, () -> x.simulate(Long.MIN_VALUE, 99));
        check.due("no houses again", 0, () -> x.simulate(Long.MAX_VALUE, 1));
    }

    private static void promise28ByHand() {
        long[] seeds = {0L, 1L, -1L, 5L, Long.MIN_VALUE, Long.MAX_VALUE, 123456789L};
        for (long seed : seeds) {
            RoadDust x = Check.loaded("R010h00");
            int r = Simulation.chance(Simulation.next(seed));
            int dust = r % 21 * 3 * 3;
            long want = (dust >= 50 ? 10000 : 0) + dust;
            check.due("simulate " + seed + " 1", want, () -> x.simulate(seed, 1));
        }
        RoadDust far = Check.loaded("R0200h10");
        far.set(7, 200);
        check.that("the sum is cut at 9999", far.simulate(3L, 99) % 10000 == 9999);
    }

    /** Some complaints, and perhaps one liter in the tank of the wagon 0. */
    private static void begin(RoadDust x, boolean emptied) {
        x.pass(3);
        x.set(7, 90);
        if (emptied && x.about(2) > 0) {
            x.spray(0, 9);
            x.spray(0, 9);
            x.spray(0, 1);
        }
    }

    private static void promise28AsActions() {
        String[] roads = {"R010", "R010h00w0", "R0201h15h09w0w1", "R100120120120h33h50h99h05w0w5w9f3"};
        for (String road : roads) {
            for (long seed = -20; seed <= 20; seed++) {
                long start = seed * 1000003L;
                int m = (int) (seed + 21) % 25 + 1;
                RoadDust x = Check.loaded(road);
                begin(x, seed % 2 == 0);
                RoadDust y = Check.loaded(road);
                begin(y, seed % 2 == 0);
                String before = Check.seen(x);
                long want = Simulation.answer(y, start, m);
                check.due(road + ": simulate " + start + " " + m, want, () -> x.simulate(start, m));
                check.that(road + ": simulate changes nothing", before.equals(Check.seen(x)));
            }
        }
    }
}
