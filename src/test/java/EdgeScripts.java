import java.math.BigInteger;
import java.util.function.LongPredicate;

/** The boundary cases of the promises 27 and 28: scripts and simulations. */
final class EdgeScripts {
    private static final int NONE = RoadDust.NONE;
    private final Check check;

    EdgeScripts(Check check) {
        this.check = check;
    }

    void run() {
        check.sentence(27, "n: number of commands, 1 to 4", this::leastAndMostCommands);
        check.sentence(27, "A script has 1 to 4 commands; each is a group of four decimal digits d1 to d4,",
            this::groupsOfFour);
        check.sentence(27, "script: the commands, a number of at most 4 * n digits (0 or more)", this::digits);
        check.sentence(27, "the first command is the highest group of the number (with zeros before it, if it has fewer "
            + "digits).", this::highestGroupFirst);
        check.sentence(27, "Runs a script on a copy of the state.", this::copyOfTheState);
        check.sentence(27, "1 0 x y: xy hours go by (01 to 50).", this::hours);
        check.sentence(27, "2 w 0 s: wagon w drives to segment s.", this::drives);
        check.sentence(27, "3 w 0 v: wagon w sprays v liters (1 to 9).", this::sprays);
        check.sentence(27, "4 w 0 0: wagon w fills its tank.", this::fills);
        check.sentence(27, "5 s 0 v: the limit of segment s becomes v.", this::limits);
        check.sentence(27, "6 s 0 v: the surface of segment s becomes v.", this::surfaces);
        check.sentence(27, "7 0 x y: the lorries become xy.", this::lorries);
        check.sentence(27, "8 i x y: succeeds if house i has at most xy complaints.", this::complaintsAtMost);
        check.sentence(27, "9 s x y: succeeds if the dust of segment s is at most 10 * xy.", this::dustAtMost);
        check.sentence(27, "The commands 1 to 7 fail if the method with this effect would throw an exception;",
            this::eachGroup);
        check.sentence(27, "commands with segments, houses or wagons that do not exist fail,", this::nothingSuch);
        check.sentence(27, "and so does any other group (also one with another digit where a 0 is written).",
            this::otherGroups);
        check.sentence(27, "xy is a decimal number.", this::decimal);
        check.sentence(27, "Returns the index, from 0, of the first command that fails; NONE if all succeed.",
            this::firstThatFails);
        check.sentence(27, "Throws IllegalArgumentException if n is out of range, or if script is negative or has more than "
            + "4 * n digits", this::noScript);
        simulations();
    }

    private void simulations() {
        check.sentence(28, "m: number of hours, 1 to 99", this::leastAndMostHours);
        check.sentence(28, "seed: any long", this::anySeed);
        check.sentence(28, "Simulates m hours on a copy of the state.", this::simulatedOnACopy);
        check.sentence(28, "x is first replaced by x * 6364136223846793005L + 1442695040888963407L (with long overflow), "
            + "and r = (int) (x >>> 33) is computed.", this::overflow);
        check.sentence(28, "L becomes r % 21, the sun r / 32 % 10;", this::lorriesAndSun);
        check.sentence(28, "if there are wagons, and wagon r / 512 % (number of wagons) has liters,", this::whichWagon);
        check.sentence(28, "it drives to segment r / 2048 % S, if it has so many moves (otherwise it stays where it is),",
            this::farAndNear);
        check.sentence(28, "and sprays the smaller one of 5 and its liters,", this::fiveOrLess);
        check.sentence(28, "if it has a move then.", this::withoutAMove);
        check.sentence(28, "Returns 10000 * (the complaints in these hours)", this::complaintsInTheseHours);
        check.sentence(28, "(the sum of what the house 0 got in them, or 9999 if it is greater;", this::sumUpTo9999);
        check.sentence(28, "0 without houses).", this::withoutHouses);
        check.sentence(28, "Throws IllegalArgumentException if m is out of range", this::simulatedHoursOutOfRange);
    }

    // ---- numbers of commands and digits

    private void leastAndMostCommands() {
        RoadDust x = new RoadDust();
        long script = 1001L;
        for (int n = 1; n <= 4; n++) {
            int commands = n;
            long all = script;
            check.due(commands + " commands", NONE, () -> x.runScript(commands, all));
            script = script * 10000 + 1001;
        }
        for (int n : new int[] {0, 5}) {
            check.throwing(n + " commands", Check.ARGUMENT, () -> x.runScript(n, 1001L));
        }
    }

    private void groupsOfFour() {
        RoadDust x = Check.loaded("R100000000000h00w0w9");
        good(x, 1, 2108L);
        good(x, 2, 20019999L);
        good(x, 3, 900021058000L);
        good(x, 4, 3109100120049910L);
        bad(x, 2, 90000210L);
        check.due("a digit that is missing moves the others", 0, () -> x.runScript(2, 2001999L));
    }

    private void digits() {
        RoadDust x = Check.loaded("R100000000000");
        check.due("no digits for one", 0, () -> x.runScript(1, 0L));
        check.due("four digits for one", NONE, () -> x.runScript(1, 9999L));
        check.throwing("five digits for one", Check.ARGUMENT, () -> x.runScript(1, 10000L));
        check.due("eight digits for two", NONE, () -> x.runScript(2, 99999999L));
        check.throwing("nine digits for two", Check.ARGUMENT, () -> x.runScript(2, 100000000L));
        check.due("twelve digits for three", NONE, () -> x.runScript(3, 999999999999L));
        check.throwing("13 digits for three", Check.ARGUMENT, () -> x.runScript(3, 1000000000000L));
        check.due("sixteen digits for four", NONE, () -> x.runScript(4, 9999999999999999L));
        check.throwing("17 digits for four", Check.ARGUMENT, () -> x.runScript(4, 10000000000000000L));
        check.throwing("19 digits for four", Check.ARGUMENT, () -> x.runScript(4, Long.MAX_VALUE));
        for (int n = 1; n <= 4; n++) {
            int commands = n;
            check.due("the script 0 for " + n, 0, () -> x.runScript(commands, 0L));
            check.due("the script 1 for " + n, 0, () -> x.runScript(commands, 1L));
        }
    }

    private void highestGroupFirst() {
        RoadDust x = Check.loaded("R010h00");
        check.due("an hour, and then it has complained", 1, () -> x.runScript(2, 10018000L));
        check.due("it has not complained, and then an hour", NONE, () -> x.runScript(2, 80001001L));
        check.due("zeros before three digits", 0, () -> x.runScript(1, 999L));
        check.due("zeros before one command of two", 0, () -> x.runScript(2, 8000L));
        check.due("zeros before three commands of four", 0, () -> x.runScript(4, 800080008000L));
        check.due("zeros in the second group", 1, () -> x.runScript(2, 80000000L));
    }

    private void copyOfTheState() {
        RoadDust x = Check.loaded("R0200h00w0");
        x.spray(0, 9);
        x.save(0);
        String before = Check.seen(x);
        check.due("filled, driven, sprayed, an hour", NONE, () -> x.runScript(4, 4000200130091001L));
        check.that("a script changes something", before.equals(Check.seen(x)));
        check.due("limit, surface, lorries, hours", NONE, () -> x.runScript(4, 5001610270001050L));
        check.that("another script changes something", before.equals(Check.seen(x)));
        check.due("one that fails at its end", 3, () -> x.runScript(4, 4000200130090000L));
        check.that("a script that fails changes something", before.equals(Check.seen(x)));
        check.due("each script begins anew", NONE, () -> x.runScript(1, 4000L));
        check.due("none is an action", 0, x::undo);
        check.due("the slot stays", 0, () -> x.restore(0));
        check.that("a script changes the slot", before.equals(Check.seen(x)));
    }

    // ---- each command at its boundaries, and what it brings about

    private void good(RoadDust x, int n, long script) {
        check.due("script " + script, NONE, () -> x.runScript(n, script));
    }

    /** The last command of the script fails. */
    private void bad(RoadDust x, int n, long script) {
        check.due("script " + script, n - 1, () -> x.runScript(n, script));
    }

    private void hours() {
        RoadDust x = Check.loaded("R010h00");
        x.set(7, 1);
        good(x, 1, 1001L);
        good(x, 1, 1050L);
        bad(x, 1, 1000L);
        bad(x, 1, 1051L);
        bad(x, 1, 1099L);
        good(x, 2, 10018001L);
        bad(x, 2, 10018000L);
        good(x, 2, 10508050L);
        bad(x, 2, 10508049L);
        good(x, 3, 105010498099L);
        bad(x, 3, 105010498098L);
        RoadDust y = Check.loaded("R010w0");
        y.set(8, 9);
        y.spray(0, 9);
        bad(y, 4, 4000300910094000L);
        good(y, 4, 4000300910104000L);
    }

    private void drives() {
        RoadDust x = Check.loaded("R100000000000w0w9");
        good(x, 1, 2000L);
        good(x, 1, 2004L);
        bad(x, 1, 2005L);
        good(x, 1, 2105L);
        bad(x, 1, 2104L);
        good(x, 2, 20042004L);
        bad(x, 2, 20042003L);
        good(x, 3, 200210012006L);
        RoadDust y = Check.loaded("R0200w1");
        bad(y, 2, 30014000L);
        good(y, 3, 300120004000L);
    }

    private void sprays() {
        RoadDust x = Check.loaded("R010w0");
        good(x, 1, 3001L);
        good(x, 1, 3009L);
        bad(x, 1, 3000L);
        good(x, 3, 300930093002L);
        bad(x, 3, 300930093003L);
        good(x, 4, 3001300130013001L);
        RoadDust y = Check.loaded("R010w0");
        y.spray(0, 1);
        bad(y, 4, 3001300130013001L);
        // Of ten liters one is lost and one dries: 90 * (10 - 8) / 10 = 18, and 13 of these lie.
        RoadDust z = Check.loaded("R010w0");
        good(z, 4, 3008300210019002L);
        bad(z, 4, 3008300210019001L);
    }

    private void fills() {
        RoadDust x = Check.loaded("R0200w0w1");
        bad(x, 1, 4000L);
        good(x, 2, 30014000L);
        bad(x, 2, 31014100L);
        good(x, 4, 3009300940003009L);
        bad(x, 3, 300930093009L);
        x.set(8, 1);
        good(x, 2, 30024000L);
        bad(x, 3, 300240004000L);
        x.set(8, 0);
        bad(x, 2, 30024000L);
        RoadDust y = Check.loaded("R010w0");
        y.spray(0, 1);
        y.spray(0, 1);
        y.spray(0, 1);
        good(y, 1, 4000L);
        bad(y, 2, 30014000L);
    }

    private void limits() {
        RoadDust x = Check.loaded("R100000000000");
        good(x, 1, 5001L);
        good(x, 1, 5905L);
        bad(x, 1, 5000L);
        bad(x, 1, 5006L);
        bad(x, 1, 5009L);
        // 30 come, and 22 lie; 150 come, and 112 lie.
        good(x, 3, 500110019003L);
        bad(x, 3, 500110019002L);
        good(x, 3, 590510019912L);
        bad(x, 3, 590510019911L);
        RoadDust y = Check.loaded("R010h00h00h00");
        y.pass(1);
        good(y, 1, 5004L);
        bad(y, 1, 5005L);
        good(y, 2, 10015003L);
        bad(y, 2, 10015004L);
    }

    private void surfaces() {
        RoadDust x = Check.loaded("R100000000000");
        good(x, 1, 6000L);
        good(x, 1, 6902L);
        bad(x, 1, 6003L);
        bad(x, 1, 6009L);
        // 60 come, and 45 lie; 30 come, and 22 lie.
        good(x, 3, 600110019005L);
        bad(x, 3, 600110019004L);
        good(x, 3, 690210019903L);
        bad(x, 3, 690210019902L);
    }

    private void lorries() {
        RoadDust x = Check.loaded("R010");
        good(x, 1, 7000L);
        good(x, 1, 7020L);
        bad(x, 1, 7021L);
        bad(x, 1, 7099L);
        good(x, 3, 700070007020L);
        bad(x, 2, 70007021L);
        good(x, 3, 700010509000L);
        // 180 come, and 135 lie.
        good(x, 3, 702010019014L);
        bad(x, 3, 702010019013L);
    }

    private void complaintsAtMost() {
        RoadDust x = Check.loaded("R010h09" + "h00".repeat(7));
        good(x, 1, 8000L);
        good(x, 1, 8099L);
        good(x, 1, 8700L);
        x.set(7, 20);
        x.pass(12);
        check.due("complaints of the last house", 12, () -> x.house(7, 3));
        good(x, 1, 8712L);
        good(x, 1, 8799L);
        bad(x, 1, 8711L);
        bad(x, 1, 8700L);
        check.due("complaints of the first house", 0, () -> x.house(0, 3));
        good(x, 1, 8000L);
        RoadDust many = Check.loaded("R010h00");
        many.set(7, 1);
        many.pass(50);
        many.pass(49);
        good(many, 1, 8099L);
        bad(many, 1, 8098L);
        many.pass(1);
        check.due("complaints", 100, () -> many.house(0, 3));
        bad(many, 1, 8099L);
    }

    private void dustAtMost() {
        RoadDust x = Check.loaded("R012");
        x.setLimit(0, 1);
        good(x, 1, 9000L);
        good(x, 1, 9099L);
        // What 14 raise settles to 10, and what 15 raise to 11.
        x.set(5, 14);
        x.pass(1);
        check.due("ten lie", 10, () -> x.segment(0, 3));
        good(x, 1, 9001L);
        bad(x, 1, 9000L);
        RoadDust y = Check.loaded("R012");
        y.setLimit(0, 1);
        y.set(5, 15);
        y.pass(1);
        check.due("eleven lie", 11, () -> y.segment(0, 3));
        bad(y, 1, 9001L);
        good(y, 1, 9002L);
        RoadDust most = Check.loaded("R100000000000");
        most.set(5, 20);
        most.setLimit(9, 5);
        most.pass(50);
        check.due("the most that can lie", 749, () -> most.segment(9, 3));
        good(most, 1, 9975L);
        bad(most, 1, 9974L);
    }

    // ---- groups

    /** Wagons with few moves and liters, a segment with a rank, and houses with complaints. */
    private static RoadDust busy() {
        RoadDust x = Check.loaded("R03012h00h00h00h20w0w2");
        x.pass(2);
        x.spray(0, 9);
        x.spray(0, 9);
        x.spray(0, 1);
        x.drive(1, 1);
        return x;
    }

    /** Whether a method with the effect of a group goes well. */
    private static boolean goesWell(RoadDust x, int d1, int d2, int d3, int d4) {
        int xy = 10 * d3 + d4;
        try {
            switch (d1) {
                case 1: return d2 == 0 && x.pass(xy) >= 0;
                case 2: return d3 == 0 && x.drive(d2, d4) >= 0;
                case 3: return d3 == 0 && x.spray(d2, d4) >= 0;
                case 4: return d3 == 0 && d4 == 0 && x.fill(d2) >= 0;
                case 5: return d3 == 0 && x.setLimit(d2, d4) >= 0;
                case 6: return d3 == 0 && x.setSurface(d2, d4) >= 0;
                case 7: return d2 == 0 && x.set(5, xy) >= 0;
                case 8: return x.house(d2, 3) <= xy;
                case 9: return x.segment(d2, 3) <= 10 * xy;
                default: return false;
            }
        } catch (IllegalStateException | IllegalArgumentException | IndexOutOfBoundsException e) {
            return false;
        }
    }

    private void eachGroup() {
        int well = 0;
        for (int k = 0; k < 10000; k++) {
            int group = k;
            boolean good = goesWell(busy(), group / 1000, group / 100 % 10, group / 10 % 10, group % 10);
            RoadDust x = busy();
            check.due("the group " + group, good ? NONE : 0, () -> x.runScript(1, group));
            well += good ? 1 : 0;
        }
        check.that("too few groups go well: " + well, well > 500);
    }

    private void nothingSuch() {
        RoadDust bare = Check.loaded("R010");
        for (long command : new long[] {2000, 3001, 4000, 8000, 8099, 5101, 6100, 9100, 9199}) {
            bad(bare, 1, command);
        }
        RoadDust most = Check.loaded("R100000000000w9w9w9" + "h99".repeat(8));
        for (long command : new long[] {2209, 3209, 8700, 8799, 5905, 6902, 9900, 9999}) {
            good(most, 1, command);
        }
        for (long command : new long[] {2309, 2909, 3301, 4300, 4900, 8800, 8899, 8900, 8999}) {
            bad(most, 1, command);
        }
        RoadDust nine = Check.loaded("R09000000000w8");
        for (long command : new long[] {2009, 5901, 6901, 9900, 9999}) {
            bad(nine, 1, command);
        }
    }

    private void otherGroups() {
        RoadDust x = Check.loaded("R100000000000h00h00w0w0");
        x.spray(0, 9);
        x.spray(1, 9);
        for (int group = 0; group < 1000; group++) {
            bad(new RoadDust(), 1, group);
        }
        for (long command : new long[] {1001, 2001, 3001, 4000, 5001, 6001, 7001, 8001, 9001}) {
            good(x, 1, command);
        }
        for (long command : new long[] {
            1101, 1901, 2011, 2091, 3011, 3091, 4001, 4009, 4010, 4090, 4101, 5011, 5091, 6011, 6091, 7101, 7901}) {
            bad(x, 1, command);
        }
    }

    private void decimal() {
        RoadDust x = Check.loaded("R010h00");
        x.set(7, 1);
        good(x, 2, 10108010L);
        bad(x, 2, 10108009L);
        good(x, 2, 10128012L);
        bad(x, 2, 10128011L);
        good(x, 2, 10218021L);
        bad(x, 2, 10218020L);
        good(x, 1, 7012L);
        bad(x, 1, 7021L);
        bad(x, 1, 1060L);
    }

    private void firstThatFails() {
        RoadDust x = new RoadDust();
        for (int n = 1; n <= 4; n++) {
            for (int mask = 0; mask < 1 << n; mask++) {
                long script = 0;
                int first = NONE;
                for (int k = 0; k < n; k++) {
                    boolean fails = (mask >> k & 1) == 1;
                    script = script * 10000 + (fails ? 1000 : 1001);
                    first = fails && first == NONE ? k : first;
                }
                long all = script;
                int commands = n;
                int want = first;
                check.due(commands + " commands, " + all, want, () -> x.runScript(commands, all));
            }
        }
    }

    private void noScript() {
        RoadDust x = new RoadDust();
        for (int n : new int[] {Integer.MIN_VALUE, -1, 0, 5, 6, Integer.MAX_VALUE}) {
            check.throwing(n + " commands", Check.ARGUMENT, () -> x.runScript(n, 1001L));
            check.throwing(n + " commands, 0", Check.ARGUMENT, () -> x.runScript(n, 0L));
        }
        for (int n = 1; n <= 4; n++) {
            int commands = n;
            for (long script : new long[] {-1L, -1001L, -9999L, Long.MIN_VALUE, Long.MIN_VALUE + 1, Long.MAX_VALUE}) {
                check.throwing(n + " commands, " + script, Check.ARGUMENT, () -> x.runScript(commands, script));
            }
        }
        check.throwing("one digit too many, though the rest are commands", Check.ARGUMENT,
            () -> x.runScript(1, 11001L));
        check.throwing("one digit too many at the end", Check.ARGUMENT, () -> x.runScript(1, 10010L));
    }

    // ---- simulations

    private void simulated(String road, long seed, int m) {
        long want = Simulation.answer(Check.loaded(road), seed, m);
        check.due(road + ", seed " + seed + ", hours " + m, want, () -> Check.loaded(road).simulate(seed, m));
    }

    private void leastAndMostHours() {
        for (int m : new int[] {1, 2, 98, 99}) {
            simulated("R010h00", 7L, m);
            simulated("R100120120120h05h33h50w0w5w9", -7L, m);
        }
        RoadDust x = Check.loaded("R010h09");
        x.set(7, 200);
        check.that("the 99th hour brings nothing", x.simulate(7L, 99) > x.simulate(7L, 98));
        check.throwing("0 hours", Check.ARGUMENT, () -> x.simulate(7L, 0));
        check.throwing("100 hours", Check.ARGUMENT, () -> x.simulate(7L, 100));
    }

    private void anySeed() {
        long[] seeds = {
            0L, 1L, -1L, 2L, -2L, 1L << 31, 1L << 32, 1L << 33, -1L << 33, Integer.MIN_VALUE, Integer.MAX_VALUE,
            Long.MIN_VALUE, Long.MIN_VALUE + 1, Long.MAX_VALUE, Long.MAX_VALUE - 1};
        for (long seed : seeds) {
            simulated("R010h00", seed, 1);
            simulated("R0201h15h09w0w1", seed, 30);
        }
        // By hand: x becomes 1442695040888963407 and r 167951807, which is 21 * 7997705 + 2: two lorries raise 18.
        check.due("an hour of the seed 0", 18, () -> Check.loaded("R010h00").simulate(0L, 1));
    }

    /** What r is after so many hours, worked out without overflow: x is a number of 64 bits, and r its upper 31. */
    private static int chanceOfHour(long seed, int hour) {
        BigInteger factor = BigInteger.valueOf(6364136223846793005L);
        BigInteger summand = BigInteger.valueOf(1442695040888963407L);
        BigInteger x = BigInteger.valueOf(seed);
        for (int k = 0; k < hour; k++) {
            x = x.multiply(factor).add(summand).mod(BigInteger.ONE.shiftLeft(64));
        }
        return x.shiftRight(33).intValueExact();
    }

    private void overflow() {
        int great = 0;
        for (long seed : new long[] {0L, 1L, 2L, 3L, -1L, -2L, Long.MIN_VALUE, Long.MAX_VALUE, 1L << 62, -1L << 62}) {
            long first = chanceOfHour(seed, 1) % 21 * 9;
            check.due("the first hour of the seed " + seed, complaining((int) first),
                () -> Check.loaded("R010h00").simulate(seed, 1));
            RoadDust x = Check.loaded("R010h00");
            x.set(7, 200);
            long second = first * 3 / 4 + chanceOfHour(seed, 2) % 21 * 9;
            long complaints = second >= 200 ? 1 : 0;
            check.due("two hours of the seed " + seed, 10000 * complaints + first + second, () -> x.simulate(seed, 2));
            great += chanceOfHour(seed, 1) >= 1 << 30 ? 1 : 0;
        }
        check.that("x is negative with none of the seeds, or with all", great > 0 && great < 10);
    }

    private void simulatedOnACopy() {
        RoadDust x = Check.loaded("R0201h15h09w0w1");
        x.spray(0, 9);
        x.save(1);
        String before = Check.seen(x);
        int first = x.simulate(-5L, 99);
        check.that("a simulation changes something", before.equals(Check.seen(x)));
        check.due("the same once more", first, () -> x.simulate(-5L, 99));
        check.due("it is no action", 0, x::undo);
        check.due("the slot stays", 0, () -> x.restore(1));
        check.that("a simulation changes the slot", before.equals(Check.seen(x)));
    }

    /** The first seed from 0 whose first r has what is wanted. */
    private static long seed(LongPredicate wanted) {
        for (long seed = 0; seed < 10_000_000; seed++) {
            if (wanted.test(Simulation.chance(Simulation.next(seed)))) {
                return seed;
            }
        }
        throw new IllegalStateException("no such seed");
    }

    private void lorriesAndSun() {
        for (int lorries : new int[] {0, 1, 20}) {
            for (int sun : new int[] {0, 9}) {
                long start = seed(r -> r % 21 == lorries && r / 32 % 10 == sun);
                RoadDust x = Check.loaded("R010h00w0");
                x.set(7, 200);
                x.spray(0, 9);
                x.spray(0, 9);
                x.spray(0, 2);
                // The tank is empty. Of the 9 liters the sun 9 takes 3.
                int want = lorries * 9 * (sun == 0 ? 1 : 4) / 10;
                long complaints = want >= 200 ? 1 : 0;
                check.due("L " + lorries + ", sun " + sun, 10000 * complaints + want, () -> x.simulate(start, 1));
            }
        }
    }

    /** A seed with 20 lorries and without sun, with which one of so many wagons would drive to a segment of ten. */
    private static long dusty(int wagon, int wagons, int target) {
        return seed(r -> r % 21 == 20 && r / 32 % 10 == 0 && r / 512 % wagons == wagon && r / 2048 % 10 == target);
    }

    /** The answer of an hour in which the house 0 got so much, at the first bound of 50. */
    private static long complaining(int got) {
        return got >= 50 ? 10000L + got : got;
    }

    private void whichWagon() {
        String road = "R100000000000h00";
        check.due("no wagons", complaining(270), () -> Check.loaded(road).simulate(dusty(0, 1, 0), 1));
        // Five liters on the segment 0 leave 90 of its 180, and the house gets (180 + 180) / 2.
        check.due("the only wagon", complaining(180), () -> Check.loaded(road + "w0").simulate(dusty(0, 1, 0), 1));
        for (int w = 0; w < 3; w++) {
            int wagon = w;
            RoadDust x = Check.loaded(road + "w3w3w3");
            x.spray(wagon, 9);
            x.spray(wagon, 9);
            x.spray(wagon, 2);
            x.pass(1);
            RoadDust y = Check.loaded(road + "w3w3w3");
            y.pass(1);
            // 67 of the first hour lie: 247 and 247, or 157 and 247.
            check.due("the wagon " + w + " without liters", complaining(370), () -> x.simulate(dusty(wagon, 3, 0), 1));
            check.due("the wagon " + w + " with liters", complaining(280), () -> y.simulate(dusty(wagon, 3, 0), 1));
            check.due("another than " + w, complaining(280), () -> x.simulate(dusty((wagon + 1) % 3, 3, 0), 1));
        }
    }

    private void farAndNear() {
        String road = "R100000000000h00w0";
        // Where it sprays, 90 of 180 come: on the segment 0 (180 + 180) / 2, on the segment 1 (360 + 90) / 2.
        int[] got = {180, 225, 270, 270, 270, 180, 180, 180, 180, 180};
        for (int target = 0; target < 10; target++) {
            long start = dusty(0, 1, target);
            int want = got[target];
            check.due("with four moves to " + target, complaining(want), () -> Check.loaded(road).simulate(start, 1));
        }
        RoadDust back = Check.loaded("R100000000000h00w4");
        check.due("with four moves back to 0", complaining(270), () -> back.simulate(dusty(0, 1, 0), 1));
        check.due("with three of four moves back to 1", complaining(225), () -> back.simulate(dusty(0, 1, 1), 1));
        back.drive(0, 3);
        check.due("with three moves back to 0", complaining(270), () -> back.simulate(dusty(0, 1, 0), 1));
        back.pass(1);
        check.due("with three of four moves back to 0", complaining(280), () -> back.simulate(dusty(0, 1, 0), 1));
        simulated("R010h00w0", 3L, 5);
    }

    private void fiveOrLess() {
        int[] got = {270, 252, 234, 216, 198, 180, 180};
        for (int liters = 0; liters <= 6; liters++) {
            RoadDust x = withLiters(liters);
            int left = liters;
            int want = got[liters];
            check.due("liters", left, () -> x.wagon(0, 1));
            check.due("with " + liters + " liters", complaining(want), () -> x.simulate(dusty(0, 1, 0), 1));
        }
        check.due("with a full tank", complaining(180),
            () -> Check.loaded("R100000000000h00w0").simulate(dusty(0, 1, 0), 1));
    }

    /** A dry road without dust, a house beside its segment 0, and a wagon there with four moves and so many liters. */
    private static RoadDust withLiters(int liters) {
        RoadDust x = Check.loaded("R100000000000h00w0");
        x.set(5, 0);
        x.set(6, 9);
        x.spray(0, 9);
        for (int rest = 11 - liters; rest > 0; rest -= 9) {
            x.spray(0, Math.min(9, rest));
        }
        x.pass(3);
        return x;
    }

    private void withoutAMove() {
        int[] got = {180, 180, 180, 180, 270};
        for (int used = 0; used <= 4; used++) {
            RoadDust x = Check.loaded("R100000000000h00w0");
            for (int k = 0; k < used; k++) {
                x.spray(0, 1);
            }
            int moves = 4 - used;
            // Each liter that is there already leaves 18 less, and five more 90 less.
            int want = got[used] - 18 * used;
            check.due("moves", moves, () -> x.wagon(0, 2));
            check.due("with " + moves + " moves where it is", complaining(want), () -> x.simulate(dusty(0, 1, 0), 1));
        }
        RoadDust y = Check.loaded("R100000000000h00w0");
        y.spray(0, 1);
        y.spray(0, 1);
        y.spray(0, 1);
        // Three liters are there: 126, or 36 with five more; beside it 180, or 90 with five liters.
        check.due("it drives with its last move", complaining(216), () -> y.simulate(dusty(0, 1, 1), 1));
        check.due("it sprays with its last move", complaining(126), () -> y.simulate(dusty(0, 1, 0), 1));
        check.due("it cannot drive, and sprays with its last move", complaining(126),
            () -> y.simulate(dusty(0, 1, 2), 1));
        y.spray(0, 1);
        check.due("it has no move", complaining(198), () -> y.simulate(dusty(0, 1, 0), 1));
    }

    private void complaintsInTheseHours() {
        RoadDust x = Check.loaded("R0200h09h10h10");
        RoadDust twin = Check.loaded("R0200h09h10h10");
        x.pass(5);
        twin.pass(5);
        check.due("complaints of the past", 10, () -> x.about(10));
        long want = Simulation.answer(twin, 5L, 40);
        check.that("there are no complaints in forty hours", want >= 10000);
        check.due("those of forty hours alone", want, () -> x.simulate(5L, 40));
        RoadDust y = Check.loaded("R010" + "h00".repeat(8));
        y.pass(50);
        y.set(7, 1);
        long most = y.simulate(1L, 99);
        check.due("eight houses in 99 hours", 792, () -> most / 10000);
        check.due("and the sum", 9999, () -> most % 10000);
        RoadDust none = Check.loaded("R010h09");
        none.set(7, 200);
        check.due("no complaints", 0, () -> none.simulate(1L, 99) / 10000);
    }

    /** A simulation of sixty hours whose sum is known. */
    private void sum(long seed, int sum, int cut) {
        Simulation simulation = new Simulation(Check.loaded("R010h00"));
        simulation.run(seed, 60);
        check.due("the sum of the seed " + seed, sum, () -> simulation.sum);
        check.due("the answer with the sum " + sum, 10000 * simulation.complaints + cut,
            () -> Check.loaded("R010h00").simulate(seed, 60));
    }

    private void sumUpTo9999() {
        sum(750L, 9998, 9998);
        sum(2773L, 9999, 9999);
        sum(6299L, 10000, 9999);
        sum(3L, 10319, 9999);
        RoadDust x = Check.loaded("R0200h09h10");
        x.set(7, 200);
        Simulation simulation = new Simulation(Check.loaded("R0200h09h10"));
        simulation.road.set(7, 200);
        simulation.run(11L, 20);
        check.that("the house 0 alone counts", simulation.sum < 1000);
        check.due("the sum of the house 0", simulation.answer(), () -> x.simulate(11L, 20));
        RoadDust past = Check.loaded("R010h09");
        past.pass(50);
        past.set(5, 0);
        past.pass(50);
        check.due("the past does not count", Simulation.answer(Check.loaded("R010h09"), 0L, 1),
            () -> past.simulate(0L, 1));
    }

    private void withoutHouses() {
        check.due("no houses", 0, () -> new RoadDust().simulate(1L, 1));
        check.due("no houses, 99 hours", 0, () -> new RoadDust().simulate(-1L, 99));
        check.due("no houses, but wagons", 0, () -> Check.loaded("R010w0w0w0").simulate(Long.MIN_VALUE, 99));
        RoadDust x = new RoadDust();
        x.addHouse(0, 0);
        x.pass(9);
        x.undo();
        x.undo();
        check.due("a house that was taken back", 0, () -> x.simulate(1L, 99));
    }

    private void simulatedHoursOutOfRange() {
        RoadDust x = Check.loaded("R010h00");
        for (int m : new int[] {Integer.MIN_VALUE, -99, -1, 0, 100, 101, Integer.MAX_VALUE}) {
            check.throwing("simulate " + m, Check.ARGUMENT, () -> x.simulate(0L, m));
            check.throwing("simulate " + m + ", another seed", Check.ARGUMENT, () -> x.simulate(Long.MIN_VALUE, m));
        }
    }
}
