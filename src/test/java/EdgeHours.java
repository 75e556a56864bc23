/** The boundary cases of the promise 18 and of an hour. */
final class EdgeHours {
    private final Check check;

    EdgeHours(Check check) {
        this.check = check;
    }

    void run() {
        check.sentence(18, "hours: 1 to 50", this::leastAndMostHours);
        check.sentence(18, "(Together they are one action.)", this::oneAction);
        check.sentence(18, "Returns the number of complaints in them.", this::complaintsInThem);
        check.sentence(18, "Throws IllegalArgumentException if hours is out of range", this::hoursOutOfRange);
        check.sentence(0, "There are 10 hours in a day, 0 to 9; days are numbered from 0.", this::hoursAndDays);
        check.sentence(0, "When an hour goes by, this happens, each part for all of them before the next part:",
            this::partsInOrder);
        check.sentence(0, "The water of each segment decreases, but not below 0, by sun / 3 on gravel, sun / 4 on "
            + "chippings and sun / 2 on a paved segment (rounded down);", this::drying);
        check.sentence(0, "a paved segment loses 1 more if there are lorries.", this::dryingByLorries);
        check.sentence(0, "The dust of each segment increases, but not above 999,", this::dustNotAbove999);
        check.sentence(0, "by L * limit * n * (10 - water) / 10, rounded down, where n is 3 on gravel, 2 on chippings and "
            + "1 on a paved segment.", this::dustRoundedDown);
        check.sentence(0, "(the dust of the segments before and behind it, if there are such)", this::endsOfTheRoad);
        check.sentence(0, "/ (2 * (1 + distance)), rounded down; this is added to its sum.", this::gotRoundedDown);
        check.sentence(0, "If what it gets is at least the bound, 1 to 200, at first 50, the house complains: its number "
            + "of complaints increases by 1,", this::atLeastTheBound);
        check.sentence(0, "and the number of complaints about its segment (of all houses beside it), too;",
            this::complaintsOfAllHouses);
        check.sentence(0, "if that number is a multiple of 3 then, the rank of the segment increases by 1",
            this::multiplesOfThree);
        check.sentence(0, "(but not above 4),", this::rankNotAboveFour);
        check.sentence(0, "and its limit becomes 5 - rank, if it is greater than that.", this::limitIfGreater);
        check.sentence(0, "The dust of each segment becomes dust * 3 / 4, rounded down.", this::settling);
        check.sentence(0, "after the hour 9 the next day begins with the hour 0,", this::dayWrapsAround);
        check.sentence(0, "and nothing is filled in yet of the water right.", this::rightOfTheNextDay);
        check.sentence(0, "All wagons have 4 moves.", this::movesOfAllWagons);
    }

    // ---- pass

    private void leastAndMostHours() {
        RoadDust x = Check.loaded("R010h00");
        check.due("the least", 1, () -> x.pass(1));
        check.due("the hour after it", 1, () -> x.about(4));
        check.due("the most", 50, () -> x.pass(50));
        check.due("the hour after that", 1, () -> x.about(4));
        check.due("the day after that", 5, () -> x.about(3));
        check.due("the most but one", 49, () -> x.pass(49));
        check.due("the hour after that", 0, () -> x.about(4));
        check.due("the day after that", 10, () -> x.about(3));
    }

    private void oneAction() {
        for (int hours : new int[] {1, 2, 14, 15, 50}) {
            RoadDust x = Check.loaded("R010h00");
            String before = Check.seen(x);
            x.pass(hours);
            check.due("undo of " + hours, 0, x::undo);
            check.that(hours + " hours are taken back", before.equals(Check.seen(x)));
            check.throwing("no more than one action", Check.STATE, x::undo);
        }
    }

    private void complaintsInThem() {
        RoadDust x = Check.loaded("R0200h00h00h19");
        check.due("both houses at 0", 2, () -> x.pass(1));
        check.due("in two hours, none counted twice", 4, () -> x.pass(2));
        check.due("all so far", 6, () -> x.about(10));
        check.due("without houses", 0, () -> new RoadDust().pass(50));
        RoadDust eight = Check.loaded("R010" + "h00".repeat(8));
        eight.set(7, 1);
        check.due("eight houses in fifty hours", 400, () -> eight.pass(50));
        x.set(5, 0);
        x.set(7, 200);
        x.pass(50);
        check.due("no dust", 0, () -> x.pass(50));
    }

    private void hoursOutOfRange() {
        RoadDust x = Check.loaded("R010h00");
        for (int hours : new int[] {0, -1, -50, 51, 52, 100, Integer.MIN_VALUE, Integer.MAX_VALUE}) {
            check.throwing("pass " + hours, Check.ARGUMENT, () -> x.pass(hours));
        }
        check.due("the hour", 0, () -> x.about(4));
        check.due("the dust", 0, () -> x.about(12));
    }

    // ---- the clock

    private void time(String what, RoadDust x, int day, int hour) {
        check.due(what + ": the day", day, () -> x.about(3));
        check.due(what + ": the hour", hour, () -> x.about(4));
    }

    private void hoursAndDays() {
        RoadDust x = new RoadDust();
        time("at first", x, 0, 0);
        for (int hours = 1; hours <= 31; hours++) {
            x.pass(1);
            time("after " + hours, x, hours / 10, hours % 10);
        }
    }

    private void dayWrapsAround() {
        RoadDust x = new RoadDust();
        x.pass(9);
        time("the last hour", x, 0, 9);
        x.pass(1);
        time("the first hour of the next day", x, 1, 0);
        x.pass(10);
        time("a whole day later", x, 2, 0);
        x.pass(9);
        x.pass(50);
        time("five days after a last hour", x, 7, 9);
        x.pass(2);
        time("two hours from a last hour", x, 8, 1);
        x.undo();
        time("undo across the midnight", x, 7, 9);
    }

    private void rightOfTheNextDay() {
        RoadDust x = Check.loaded("R010w0");
        x.set(8, 9);
        x.spray(0, 9);
        x.fill(0);
        x.spray(0, 5);
        check.due("used up", 4, () -> x.whyNoFill(0));
        x.pass(9);
        check.due("used up in the last hour, too", 4, () -> x.whyNoFill(0));
        check.due("filled on this day", 9, () -> x.about(9));
        x.pass(1);
        check.due("not in the next day's first hour", 0, () -> x.whyNoFill(0));
        check.due("filled on the next day", 0, () -> x.about(9));
        check.due("the right stays as it is", 9, () -> x.about(8));
        check.due("it is filled from it", 5, () -> x.fill(0));
        x.spray(0, 9);
        check.due("only what is left of it", 4, () -> x.fill(0));
    }

    private void movesOfAllWagons() {
        RoadDust x = Check.loaded("R0200w0w0w1");
        for (int k = 0; k < 4; k++) {
            x.spray(0, 1);
        }
        x.drive(1, 1);
        x.pass(1);
        for (int w = 0; w < 3; w++) {
            int k = w;
            check.due("wagon " + k + " in the next hour", 4, () -> x.wagon(k, 2));
        }
        x.pass(8);
        x.drive(2, 0);
        x.pass(1);
        check.due("in the next day's first hour", 4, () -> x.wagon(2, 2));
        check.due("moves alone come back", 16, () -> x.wagon(0, 1));
        check.due("it stays where it is", 1, () -> x.wagon(1, 0));
    }

    // ---- the parts 1 and 2

    private void partsInOrder() {
        RoadDust x = Check.loaded("R0200h10h00w0");
        x.set(6, 9);
        x.spray(0, 9);
        x.pass(1);
        // First 3 of 9 liters dry, then 90 * (10 - 6) / 10 = 36 come to the segment 0, and 90 to the segment 1; the
        // house 0 gets (180 + 36) / 2 = 108, and it must not be less because of the house 1 that comes after it.
        check.due("the house 0 hears of both segments", 108, () -> x.house(0, 4));
        check.due("the house 1 hears of both segments", 81, () -> x.house(1, 4));
        check.due("the dust settles after that", 27, () -> x.segment(0, 3));
        RoadDust y = Check.loaded("R010" + "h00".repeat(4));
        y.setLimit(0, 5);
        y.pass(1);
        for (int i = 0; i < 4; i++) {
            int k = i;
            check.due("a limit that falls changes nothing in its own hour: house " + k, 150, () -> y.house(k, 4));
        }
        check.due("it fell", 4, () -> y.segment(0, 1));
    }

    /** Water that is left of some liters on a surface after an hour. */
    private void left(int surface, int sun, int lorries, int water, int want) {
        RoadDust x = Check.loaded("R01" + surface + "w0");
        x.set(6, sun);
        x.set(5, lorries);
        if (water > 0) {
            x.spray(0, water);
        }
        x.pass(1);
        check.due("surface " + surface + ", sun " + sun + ", L " + lorries + ", water " + water, want,
            () -> x.segment(0, 4));
    }

    private void drying() {
        int[][] losses = {{0, 0, 0, 1, 1, 1, 2, 2, 2, 3}, {0, 0, 0, 0, 1, 1, 1, 1, 2, 2}, {0, 0, 1, 1, 2, 2, 3, 3, 4, 4}};
        for (int surface = 0; surface < 3; surface++) {
            for (int sun = 0; sun <= 9; sun++) {
                int loss = losses[surface][sun];
                for (int water = 0; water <= 9; water++) {
                    left(surface, sun, 0, water, water < loss ? 0 : water - loss);
                }
            }
        }
    }

    private void dryingByLorries() {
        left(2, 0, 0, 9, 9);
        left(2, 0, 1, 9, 8);
        left(2, 0, 20, 9, 8);
        left(2, 9, 20, 9, 4);
        left(2, 9, 1, 5, 0);
        left(2, 9, 1, 4, 0);
        left(2, 0, 1, 1, 0);
        left(2, 0, 1, 0, 0);
        left(1, 0, 20, 9, 9);
        left(0, 0, 20, 9, 9);
    }

    private void dustNotAbove999() {
        RoadDust x = Check.loaded("R010h09");
        x.set(5, 20);
        x.set(7, 200);
        x.setLimit(0, 5);
        int[] got = {30, 52, 69, 81, 91, 98, 99, 99};
        // 300, 525, 693, 819, 914, 985, and then 738 + 300 and 749 + 300 would be more than 999.
        for (int k = 0; k < got.length; k++) {
            int hour = k;
            x.pass(1);
            check.due("what a tenth of the dust is in the hour " + hour, got[hour], () -> x.house(0, 4));
        }
        check.due("what is left of 999", 749, () -> x.segment(0, 3));
    }

    /** Dust that comes in one hour, as a house at the distance 0 gets it; the sun is 0 and the bound 200. */
    private void raised(int surface, int lorries, int limit, int water, int want) {
        RoadDust x = Check.loaded("R010h00w0");
        x.set(6, 0);
        x.set(7, 200);
        x.set(5, lorries);
        x.setLimit(0, limit);
        x.setSurface(0, surface);
        if (water > 0) {
            x.spray(0, water);
        }
        x.pass(1);
        check.due("surface " + surface + ", L " + lorries + ", limit " + limit + ", water " + water, want,
            () -> x.house(0, 4));
    }

    private void dustRoundedDown() {
        raised(0, 20, 5, 0, 300);
        raised(1, 20, 5, 0, 200);
        raised(2, 20, 5, 0, 100);
        raised(0, 0, 5, 0, 0);
        raised(0, 1, 1, 0, 3);
        raised(1, 1, 1, 0, 2);
        raised(2, 1, 1, 0, 1);
        raised(0, 20, 5, 9, 30);
        raised(1, 20, 5, 9, 20);
        // On a paved segment a liter dries because of the lorries.
        raised(2, 20, 5, 9, 20);
        raised(2, 1, 1, 1, 1);
        raised(2, 1, 1, 2, 0);
        raised(0, 1, 1, 9, 0);
        raised(0, 1, 1, 7, 0);
        raised(0, 1, 1, 6, 1);
        raised(0, 1, 1, 1, 2);
        raised(0, 7, 3, 3, 44);
        raised(1, 1, 5, 9, 1);
        raised(1, 1, 4, 9, 0);
    }

    // ---- the part 3

    private void endsOfTheRoad() {
        RoadDust one = Check.loaded("R010h00");
        one.pass(1);
        check.due("the only segment", 90, () -> one.house(0, 4));
        RoadDust two = Check.loaded("R0200h00h10");
        two.pass(1);
        check.due("the first of two", 135, () -> two.house(0, 4));
        check.due("the last of two", 135, () -> two.house(1, 4));
        RoadDust ten = Check.loaded("R100000000000h00h10h80h90");
        int[] want = {135, 180, 180, 135};
        ten.pass(1);
        for (int i = 0; i < 4; i++) {
            int k = i;
            check.due("house " + k + " of ten segments", want[k], () -> ten.house(k, 4));
        }
        RoadDust before = Check.loaded("R03000h00h20");
        before.setLimit(0, 1);
        before.setLimit(2, 5);
        before.pass(1);
        check.due("the first: 2 * 30 and 90 behind it", 75, () -> before.house(0, 4));
        check.due("the last: 2 * 150 and 90 before it", 195, () -> before.house(1, 4));
        RoadDust shorter = Check.loaded("R100000000000");
        shorter.pass(5);
        shorter.clearText();
        Check.type(shorter, "R0200h10");
        shorter.load();
        shorter.pass(1);
        check.due("the last of a road that was longer", 135, () -> shorter.house(0, 4));
    }

    private void gotRoundedDown() {
        int[] tenths = {90, 45, 30, 22, 18, 15, 12, 11, 10, 9};
        for (int distance = 0; distance <= 9; distance++) {
            RoadDust x = Check.loaded("R010h0" + distance);
            int want = tenths[distance];
            x.pass(1);
            check.due("90 at this distance", want, () -> x.house(0, 4));
            check.due("the sum of it", want, () -> x.house(0, 2));
        }
        RoadDust odd = Check.loaded("R0200h00h09");
        odd.set(5, 1);
        odd.setLimit(0, 1);
        odd.setLimit(1, 1);
        odd.pass(1);
        check.due("(2 * 3 + 3) / 2", 4, () -> odd.house(0, 4));
        check.due("9 / 20", 0, () -> odd.house(1, 4));
        odd.pass(1);
        // Two lie, and three come: (2 * 5 + 5) / 2.
        check.due("the sum of 4 and 7", 11, () -> odd.house(0, 2));
    }

    /** Whether a house complains that gets so much in an hour. */
    private void complains(String road, int lorries, int limit, int water, int bound, int got, int complaints) {
        RoadDust x = Check.loaded(road + "h00w0");
        String what = got + " at the bound " + bound;
        if (bound != 50) {
            x.set(7, bound);
        }
        x.set(6, 0);
        x.set(5, lorries);
        x.setLimit(0, limit);
        if (water > 0) {
            x.spray(0, water);
        }
        check.due(what + ": complaints in the hour", complaints, () -> x.pass(1));
        check.due(what + ": what it got", got, () -> x.house(0, 4));
        check.due(what + ": its complaints", complaints, () -> x.house(0, 3));
        check.due(what + ": those about its segment", complaints, () -> x.segment(0, 6));
        check.due(what + ": all", complaints, () -> x.about(10));
    }

    private void atLeastTheBound() {
        complains("R011", 20, 5, 0, 200, 200, 1);
        complains("R010", 19, 5, 3, 200, 199, 0);
        complains("R010", 19, 5, 3, 199, 199, 1);
        complains("R010", 19, 5, 3, 198, 199, 1);
        complains("R012", 10, 5, 0, 50, 50, 1);
        complains("R010", 11, 5, 7, 50, 49, 0);
        complains("R012", 1, 1, 0, 1, 1, 1);
        complains("R012", 1, 1, 0, 2, 1, 0);
        complains("R010", 0, 5, 0, 1, 0, 0);
        complains("R010", 1, 1, 9, 1, 0, 0);
        check.due("the bound at first", 50, () -> new RoadDust().about(7));
    }

    private void complaintsOfAllHouses() {
        RoadDust x = Check.loaded("R0200h00h00h09h10");
        x.pass(1);
        check.due("of the two houses at 0 that complain", 2, () -> x.segment(0, 6));
        check.due("of the house at 1", 1, () -> x.segment(1, 6));
        check.due("no complaint far away", 0, () -> x.house(2, 3));
        check.due("all", 3, () -> x.about(10));
        x.addHouse(1, 0);
        x.pass(1);
        check.due("about 0 in two hours", 4, () -> x.segment(0, 6));
        check.due("about 1, with a house built later", 3, () -> x.segment(1, 6));
        check.due("all in two hours", 7, () -> x.about(10));
    }

    private void multiplesOfThree() {
        RoadDust x = Check.loaded("R010h00");
        int[] ranks = {0, 0, 1, 1, 1, 2, 2, 2, 3, 3, 3, 4, 4, 4, 4};
        for (int k = 0; k < ranks.length; k++) {
            int complaints = k + 1;
            int rank = ranks[k];
            x.pass(1);
            check.due("complaints", complaints, () -> x.segment(0, 6));
            check.due("the rank after " + complaints, rank, () -> x.segment(0, 2));
        }
        RoadDust many = Check.loaded("R010" + "h00".repeat(7));
        many.pass(1);
        check.due("the rank after seven complaints in an hour", 2, () -> many.segment(0, 2));
        RoadDust apart = Check.loaded("R0200h00h00h10");
        apart.pass(1);
        check.due("three complaints about two segments", 0, () -> apart.segment(0, 2));
        check.due("three complaints about two segments, the other", 0, () -> apart.segment(1, 2));
        apart.set(7, 200);
        apart.set(5, 0);
        apart.pass(1);
        check.due("an hour without complaints", 0, () -> apart.segment(0, 2));
        RoadDust third = Check.loaded("R010h00h00h00");
        third.pass(1);
        third.set(5, 0);
        third.set(7, 200);
        third.pass(1);
        check.due("a multiple of 3 in an hour without complaints", 1, () -> third.segment(0, 2));
    }

    private void rankNotAboveFour() {
        RoadDust x = Check.loaded("R010" + "h00".repeat(6));
        x.set(7, 1);
        x.pass(2);
        check.due("the rank after 12 complaints", 4, () -> x.segment(0, 2));
        check.due("the limit after 12 complaints", 1, () -> x.segment(0, 1));
        x.pass(1);
        check.due("the rank after 18 complaints", 4, () -> x.segment(0, 2));
        check.due("the limit after 18 complaints", 1, () -> x.segment(0, 1));
        x.pass(50);
        check.due("complaints go on", 318, () -> x.segment(0, 6));
        check.due("the rank after all", 4, () -> x.segment(0, 2));
        check.due("the limit after all", 1, () -> x.segment(0, 1));
        check.due("what the only limit may be", 1, () -> x.setLimit(0, 1));
    }

    private void limitIfGreater() {
        int[][] wants = {{1, 1, 1, 1}, {2, 2, 2, 1}, {3, 3, 2, 1}, {4, 3, 2, 1}, {4, 3, 2, 1}};
        for (int limit = 1; limit <= 5; limit++) {
            RoadDust x = Check.loaded("R0200h00h00h00");
            int first = limit;
            x.setLimit(0, first);
            x.set(7, 1);
            for (int rank = 1; rank <= 4; rank++) {
                int now = rank;
                x.pass(1);
                check.due("the limit " + first + " at the rank " + now, wants[first - 1][now - 1],
                    () -> x.segment(0, 1));
            }
            check.due("the limit beside it", 3, () -> x.segment(1, 1));
        }
        RoadDust y = Check.loaded("R010h00");
        y.setLimit(0, 5);
        y.pass(2);
        check.due("before the third complaint", 5, () -> y.segment(0, 1));
        y.pass(1);
        check.due("with the third complaint", 4, () -> y.segment(0, 1));
    }

    // ---- the part 4

    private void settling() {
        // One lorry on a paved segment raises 1, which becomes 0; two raise 2, 1; and so on.
        int[] left = {0, 0, 1, 2, 3, 3, 4, 5, 6, 6, 7, 8, 9, 9, 10, 11, 12, 12, 13, 14, 15};
        for (int dust = 0; dust <= 20; dust++) {
            RoadDust x = Check.loaded("R012");
            int raised = dust;
            x.set(5, raised);
            x.setLimit(0, 1);
            x.pass(1);
            check.due("what is left of " + raised, left[raised], () -> x.segment(0, 3));
        }
        RoadDust y = Check.loaded("R010");
        y.pass(1);
        y.set(5, 0);
        y.pass(50);
        check.due("all settles at last", 0, () -> y.segment(0, 3));
    }
}
