/** The boundary cases of the promises 20 to 26: what would be. */
final class EdgeWouldBe {
    private static final int LEAST = Integer.MIN_VALUE;
    private static final int MOST = Integer.MAX_VALUE;
    private static final String TEN = "R100000000000";
    private final Check check;

    EdgeWouldBe(Check check) {
        this.check = check;
    }

    void run() {
        whyNoFill();
        ahead();
        waterFor();
        limitFor();
        bestSpray();
        complainsInAndDustiest();
    }

    private void whyNoFill() {
        check.sentence(20, "Returns 1 if it has no move;", this::noMove);
        check.sentence(20, "2 if it is in no filling place;", this::noFillingPlace);
        check.sentence(20, "3 if its tank is full;", this::fullTank);
        check.sentence(20, "4 if nothing is left of the water right of this day", this::noRight);
        check.sentence(20, "(also if it was made smaller)", this::smallerRight);
        check.sentence(20, "the first of these that applies; otherwise 0.", this::severalReasons);
        check.sentence(20, "Throws IndexOutOfBoundsException if there is no such wagon", this::whyOfNoWagon);
    }

    private void ahead() {
        check.sentence(21, "hours: 1 to 20", this::leastAndMostHoursAhead);
        check.sentence(21, "Returns what it would get in the last one of so many hours from now on, without other "
            + "changes.", this::aheadAsHoursPass);
        check.sentence(21, "Throws IndexOutOfBoundsException if there is no such house", () -> noHouse(this::aheadOf));
        check.sentence(21, "Throws IllegalArgumentException if hours is out of range", this::hoursAheadOutOfRange);
    }

    private void waterFor() {
        check.sentence(22, "Returns the smallest number of liters, 0 to 9,", this::eachNumberOfLiters);
        check.sentence(22, "sprayed on its segment now,", this::besideTheWaterThatIsThere);
        check.sentence(22, "it would not complain in the next hour;", this::waterAndTheBound);
        check.sentence(22, "NONE if there is none.", this::noWaterIsEnough);
        check.sentence(22, "Throws IndexOutOfBoundsException if there is no such house", () -> noHouse(RoadDust::waterFor));
    }

    private void limitFor() {
        check.sentence(23, "Returns the greatest limit of its segment, 1 to (5 - its rank), with which it would not "
            + "complain in the next hour;", this::greatestLimits);
        check.sentence(23, "NONE if there is none.", this::noLimitIsEnough);
        check.sentence(23, "Throws IndexOutOfBoundsException if there is no such house", () -> noHouse(RoadDust::limitFor));
    }

    private void bestSpray() {
        check.sentence(24, "liters: 1 to 9", this::leastAndMostLiters);
        check.sentence(24, "Returns the segment to which it could drive with one move left,", this::oneMoveLeft);
        check.sentence(24, "(if its tank has so many)", this::justEnoughLiters);
        check.sentence(24, "all houses together get least in the next hour;", this::allHousesTogether);
        check.sentence(24, "among several the nearest, then the smallest number;", this::equallyGoodToSpray);
        check.sentence(24, "NONE if it cannot spray so much anywhere.", this::nowhereToSpray);
        check.sentence(24, "Throws IndexOutOfBoundsException if there is no such wagon", this::sprayOfNoWagon);
        check.sentence(24, "Throws IllegalArgumentException if liters is out of range", this::litersOutOfRange);
    }

    private void complainsInAndDustiest() {
        check.sentence(25, "Returns the smallest number of hours from now on, 1 to 50, in the last of which it complains, "
            + "without other changes;", this::soonAndLate);
        check.sentence(25, "NONE if there is none.", this::never);
        check.sentence(25, "Throws IndexOutOfBoundsException if there is no such house",
            () -> noHouse(RoadDust::complainsIn));
        check.sentence(26, "Returns among the segments the one without whose dust all houses together would get least in "
            + "the next hour", this::dustiestOfAll);
        check.sentence(26, "(its dust of part 3 counts as 0 then)", this::dustOfPartThree);
        check.sentence(26, "among several the smallest number.", this::equallyDusty);
    }

    // ---- no house

    private interface OfHouse {
        int answer(RoadDust x, int i);
    }

    private int aheadOf(RoadDust x, int i) {
        return x.ahead(i, 1);
    }

    private void noHouse(OfHouse call) {
        RoadDust none = new RoadDust();
        check.throwing("house 0, no house yet", Check.INDEX, () -> call.answer(none, 0));
        RoadDust one = Check.loaded("R010h09");
        check.that("no answer for the only house", call.answer(one, 0) >= RoadDust.NONE);
        check.throwing("house 1 of one", Check.INDEX, () -> call.answer(one, 1));
        RoadDust eight = Check.loaded("R010" + "h09".repeat(8));
        check.that("no answer for the last of eight", call.answer(eight, 7) >= RoadDust.NONE);
        for (int i : new int[] {LEAST, RoadDust.NONE, -1, 8, 9, MOST}) {
            check.throwing("house " + i, Check.INDEX, () -> call.answer(eight, i));
        }
    }

    // ---- whyNoFill

    /**
     * A wagon whom some of the four reasons keep from filling its tank; the segment 0 is the only filling place. A tank
     * that is not full has 19 liters.
     */
    private static RoadDust kept(boolean noMove, boolean noPlace, boolean full, boolean noRight) {
        int end = noPlace ? 1 : 0;
        int turns = noMove ? full ? 4 : 3 : 0;
        int start = turns % 2 == 0 ? end : 1 - end;
        RoadDust x = Check.loaded("R0200w" + start);
        if (!full) {
            x.spray(0, 1);
        }
        for (int k = 0; k < turns; k++) {
            x.drive(0, 1 - x.wagon(0, 0));
        }
        x.set(8, noRight ? 0 : 1);
        return x;
    }

    private void noMove() {
        check.due("no move", 1, () -> kept(true, false, false, false).whyNoFill(0));
        RoadDust x = Check.loaded("R010w0");
        x.spray(0, 1);
        x.spray(0, 1);
        x.spray(0, 1);
        check.due("a last move", 0, () -> x.whyNoFill(0));
        x.spray(0, 1);
        check.due("none", 1, () -> x.whyNoFill(0));
        x.pass(1);
        check.due("the next hour's moves", 0, () -> x.whyNoFill(0));
    }

    private void noFillingPlace() {
        check.due("no filling place", 2, () -> kept(false, true, false, false).whyNoFill(0));
        RoadDust x = Check.loaded("R03000w0w1w2f1");
        int[] want = {2, 0, 2};
        for (int w = 0; w < 3; w++) {
            int k = w;
            x.spray(k, 1);
            check.due("in the segment " + k, want[k], () -> x.whyNoFill(k));
        }
        RoadDust all = Check.loaded("R0200w0w1f0f1");
        all.spray(1, 1);
        check.due("all are filling places", 0, () -> all.whyNoFill(1));
    }

    private void fullTank() {
        check.due("a full tank", 3, () -> kept(false, false, true, false).whyNoFill(0));
        RoadDust x = Check.loaded("R010w0");
        x.spray(0, 1);
        check.due("19 liters", 0, () -> x.whyNoFill(0));
        x.fill(0);
        check.due("20 liters again", 3, () -> x.whyNoFill(0));
        x.pass(1);
        x.spray(0, 9);
        x.spray(0, 9);
        x.spray(0, 2);
        check.due("no liters", 0, () -> x.whyNoFill(0));
    }

    private void noRight() {
        check.due("no right", 4, () -> kept(false, false, false, true).whyNoFill(0));
        RoadDust x = Check.loaded("R010w0w0");
        x.set(8, 10);
        x.spray(0, 9);
        x.fill(0);
        x.spray(1, 9);
        check.due("one liter is left of it", 0, () -> x.whyNoFill(1));
        x.fill(1);
        check.due("nothing is left of it", 4, () -> x.whyNoFill(1));
        x.pass(9);
        check.due("in the last hour of this day", 4, () -> x.whyNoFill(1));
        x.pass(1);
        check.due("in the first hour of the next one", 0, () -> x.whyNoFill(1));
    }

    private void smallerRight() {
        RoadDust x = Check.loaded("R010w0");
        x.spray(0, 9);
        x.fill(0);
        x.spray(0, 9);
        int[] rights = {10, 9, 8, 1, 0, 9, 10, 99};
        int[] want = {0, 4, 4, 4, 4, 4, 0, 0};
        for (int k = 0; k < rights.length; k++) {
            int reason = want[k];
            x.set(8, rights[k]);
            check.due("nine of " + rights[k] + " are filled in", reason, () -> x.whyNoFill(0));
        }
    }

    private void severalReasons() {
        for (int mask = 0; mask < 16; mask++) {
            int reasons = mask;
            boolean noMove = (mask & 1) != 0;
            boolean noPlace = (mask & 2) != 0;
            boolean full = (mask & 4) != 0;
            boolean noRight = (mask & 8) != 0;
            int want = noMove ? 1 : noPlace ? 2 : full ? 3 : noRight ? 4 : 0;
            RoadDust x = kept(noMove, noPlace, full, noRight);
            check.due("moves for the reasons " + reasons, noMove ? 0 : full ? 4 : 3, () -> x.wagon(0, 2));
            check.due("place for the reasons " + reasons, noPlace ? 0 : 1, () -> x.segment(x.wagon(0, 0), 5));
            check.due("liters for the reasons " + reasons, full ? 20 : 19, () -> x.wagon(0, 1));
            check.due("the reasons " + reasons, want, () -> x.whyNoFill(0));
            if (want == 0) {
                check.due("and it fills", 1, () -> x.fill(0));
            } else {
                check.throwing("fill for the reasons " + reasons, Check.STATE, () -> x.fill(0));
            }
        }
    }

    private void whyOfNoWagon() {
        check.throwing("no wagon yet", Check.INDEX, () -> new RoadDust().whyNoFill(0));
        RoadDust x = Check.loaded("R010w0w0w0");
        for (int w : new int[] {LEAST, -1, 3, 4, MOST}) {
            check.throwing("wagon " + w, Check.INDEX, () -> x.whyNoFill(w));
        }
        check.due("the last wagon", 3, () -> x.whyNoFill(2));
        check.throwing("wagon 1 of one", Check.INDEX, () -> Check.loaded("R010w0").whyNoFill(1));
    }

    // ---- ahead

    private void leastAndMostHoursAhead() {
        RoadDust x = Check.loaded("R010h00");
        x.set(7, 200);
        check.due("one hour", 90, () -> x.ahead(0, 1));
        check.due("two hours", 157, () -> x.ahead(0, 2));
        // The road dries slowly, so that what it gets still grows by one in each of these hours.
        RoadDust y = Check.loaded("R010h00w0");
        y.spray(0, 9);
        y.set(5, 16);
        y.set(6, 3);
        y.set(7, 200);
        y.setLimit(0, 1);
        check.due("19 hours", 187, () -> y.ahead(0, 19));
        check.due("20 hours", 188, () -> y.ahead(0, 20));
        y.pass(1);
        check.due("20 hours an hour later", 189, () -> y.ahead(0, 20));
        y.pass(19);
        check.due("the last one of them", 189, () -> y.ahead(0, 1));
    }

    private void aheadAsHoursPass() {
        for (int hours = 1; hours <= 20; hours++) {
            int h = hours;
            RoadDust x = Check.loaded("R03012h10h00h00h21w1");
            x.setLimit(1, 5);
            x.set(6, 7);
            x.spray(0, 9);
            x.set(7, 60);
            x.pass(9);
            int[] told = new int[4];
            for (int i = 0; i < 4; i++) {
                told[i] = x.ahead(i, h);
            }
            check.due("the hour stays", 9, () -> x.about(4));
            x.pass(h);
            for (int i = 0; i < 4; i++) {
                int k = i;
                check.due("house " + k + " after " + h, told[k], () -> x.house(k, 4));
            }
        }
    }

    private void hoursAheadOutOfRange() {
        RoadDust x = Check.loaded("R010h00");
        for (int hours : new int[] {LEAST, -1, 0, 21, 22, 50, MOST}) {
            check.throwing("ahead " + hours, Check.ARGUMENT, () -> x.ahead(0, hours));
            check.throwing("ahead of no house, " + hours, Check.INDEX, () -> x.ahead(1, hours));
        }
    }

    // ---- waterFor

    /** A house that gets 90 in the next hour, and 9 less with each liter; the sun is 0. */
    private static RoadDust ninety(int bound) {
        RoadDust x = Check.loaded("R010h00w0");
        x.set(6, 0);
        x.set(7, bound);
        return x;
    }

    private void eachNumberOfLiters() {
        check.due("the greatest bound", 0, () -> ninety(200).waterFor(0));
        check.due("just none", 0, () -> ninety(91).waterFor(0));
        for (int liters = 1; liters <= 9; liters++) {
            int want = liters;
            check.due("the greatest bound for " + want, want, () -> ninety(99 - 9 * want).waterFor(0));
            check.due("the smallest bound for " + want, want, () -> ninety(91 - 9 * want).waterFor(0));
        }
    }

    private void besideTheWaterThatIsThere() {
        for (int water = 1; water <= 9; water++) {
            int there = water;
            RoadDust x = ninety(10);
            x.spray(0, there);
            check.due("nine liters, and " + there + " are there", 9 - there, () -> x.waterFor(0));
            x.set(7, 9);
            check.due("more than nine, and " + there + " are there", RoadDust.NONE, () -> x.waterFor(0));
        }
        RoadDust beside = Check.loaded("R0200h00w1");
        beside.set(6, 0);
        beside.set(7, 91);
        // (2 * 90 + 90) / 2 = 135; with five liters on its segment (2 * 45 + 90) / 2 = 90.
        check.due("on its segment alone", 5, () -> beside.waterFor(0));
        beside.spray(0, 5);
        // (180 + 45) / 2 = 112, and with three liters (126 + 45) / 2 = 85.
        check.due("beside a wet segment", 3, () -> beside.waterFor(0));
        check.due("no tank is asked", 0, () -> Check.loaded("R010h09").waterFor(0));
    }

    private void waterAndTheBound() {
        check.due("90 at the bound 90", 1, () -> ninety(90).waterFor(0));
        check.due("90 at the bound 91", 0, () -> ninety(91).waterFor(0));
        check.due("81 at the bound 81", 2, () -> ninety(81).waterFor(0));
        RoadDust x = ninety(37);
        x.set(6, 9);
        // Three liters dry before the dust comes: 90 * (10 - 6) / 10 = 36 with nine.
        check.due("36 at the bound 37", 9, () -> x.waterFor(0));
        x.set(7, 36);
        check.due("36 at the bound 36", RoadDust.NONE, () -> x.waterFor(0));
        x.set(7, 90);
        check.due("81 with the fourth liter", 4, () -> x.waterFor(0));
        x.set(5, 0);
        x.set(7, 1);
        check.due("0 at the bound 1", 0, () -> x.waterFor(0));
    }

    private void noWaterIsEnough() {
        check.due("nine liters leave 9", 9, () -> ninety(10).waterFor(0));
        check.due("which is not below 9", RoadDust.NONE, () -> ninety(9).waterFor(0));
        check.due("nor below the smallest bound", RoadDust.NONE, () -> ninety(1).waterFor(0));
    }

    // ---- limitFor

    /** A house of this rank on a dry road without dust, which gets 30 for each one of the limit. */
    private static RoadDust thirty(int rank) {
        RoadDust x = Check.loaded("R010h00h00h00");
        if (rank > 0) {
            x.pass(rank);
        }
        x.set(5, 0);
        x.set(7, 200);
        x.pass(50);
        x.set(5, 10);
        return x;
    }

    private void greatestLimits() {
        for (int rank = 0; rank <= 4; rank++) {
            RoadDust x = thirty(rank);
            int most = 5 - rank;
            check.due("the rank", 5 - most, () -> x.segment(0, 2));
            check.due("the dust", 0, () -> x.segment(0, 3));
            check.due("the greatest bound", most, () -> x.limitFor(0));
            for (int limit = 1; limit <= 5; limit++) {
                int want = Math.min(limit, most);
                x.set(7, 30 * limit + 1);
                check.due("a bound just above " + 30 * limit, want, () -> x.limitFor(0));
                x.set(7, 30 * limit + 30);
                check.due("the greatest bound for " + limit, want, () -> x.limitFor(0));
            }
        }
        RoadDust y = thirty(0);
        y.setLimit(0, 1);
        check.due("a limit above the present one", 5, () -> y.limitFor(0));
        y.set(7, 61);
        y.setLimit(0, 5);
        check.due("a limit below the present one", 2, () -> y.limitFor(0));
    }

    private void noLimitIsEnough() {
        for (int rank = 0; rank <= 4; rank++) {
            RoadDust x = thirty(rank);
            x.set(7, 31);
            check.due("30 at the bound 31", 1, () -> x.limitFor(0));
            x.set(7, 30);
            check.due("30 at the bound 30", RoadDust.NONE, () -> x.limitFor(0));
            x.set(7, 1);
            check.due("30 at the bound 1", RoadDust.NONE, () -> x.limitFor(0));
            x.set(5, 0);
            check.due("0 at the bound 1", 5 - x.segment(0, 2), () -> x.limitFor(0));
        }
    }

    // ---- bestSpray

    private void leastAndMostLiters() {
        RoadDust x = Check.loaded("R03000h20w0");
        x.set(6, 0);
        check.due("one liter", 2, () -> x.bestSpray(0, 1));
        check.due("nine liters", 2, () -> x.bestSpray(0, 9));
        x.set(6, 3);
        check.due("one liter that dries at once is as good anywhere", 0, () -> x.bestSpray(0, 1));
        check.due("two liters are not", 2, () -> x.bestSpray(0, 2));
    }

    private void oneMoveLeft() {
        for (int used = 0; used <= 3; used++) {
            int reach = 3 - used;
            RoadDust last = Check.loaded(TEN + "h90w" + (9 - reach));
            RoadDust first = Check.loaded(TEN + "h00w" + reach);
            for (int k = 0; k < used; k++) {
                last.spray(0, 1);
                first.spray(0, 1);
            }
            check.due("up to the last segment, " + reach + " away", 9, () -> last.bestSpray(0, 9));
            check.due("down to the first segment, " + reach + " away", 0, () -> first.bestSpray(0, 9));
        }
        check.due("not four away, but beside it", 8, () -> Check.loaded(TEN + "h90w5").bestSpray(0, 9));
        check.due("not four back, but beside it", 1, () -> Check.loaded(TEN + "h00w4").bestSpray(0, 9));
        check.due("nothing in reach", 4, () -> Check.loaded(TEN + "h90w4").bestSpray(0, 9));
        RoadDust x = Check.loaded("R0200h10w0");
        x.spray(0, 1);
        x.spray(0, 1);
        check.due("one away with two moves", 1, () -> x.bestSpray(0, 9));
        x.spray(0, 1);
        check.due("one away with one move", 0, () -> x.bestSpray(0, 9));
        check.due("the only segment", 0, () -> Check.loaded("R010h00w0").bestSpray(0, 9));
    }

    private void justEnoughLiters() {
        RoadDust x = Check.loaded("R0200h10w0");
        x.spray(0, 9);
        x.spray(0, 7);
        check.due("four of four", 1, () -> x.bestSpray(0, 4));
        check.due("three of four", 1, () -> x.bestSpray(0, 3));
        check.due("five of four", RoadDust.NONE, () -> x.bestSpray(0, 5));
        check.due("nine of four", RoadDust.NONE, () -> x.bestSpray(0, 9));
        x.spray(0, 3);
        check.due("one of one", 0, () -> x.bestSpray(0, 1));
        check.due("two of one", RoadDust.NONE, () -> x.bestSpray(0, 2));
    }

    private void allHousesTogether() {
        RoadDust x = Check.loaded("R0500000h00h30h30w2");
        check.due("two houses against one", 3, () -> x.bestSpray(0, 9));
        x.addHouse(0, 0);
        x.addHouse(0, 0);
        check.due("two houses against three", 0, () -> x.bestSpray(0, 9));
        RoadDust wet = Check.loaded("R0200h00h10w0");
        wet.spray(0, 9);
        // The segment 0 has water enough: more of it would be lost.
        check.due("where it is not lost", 1, () -> wet.bestSpray(0, 9));
    }

    private void equallyGoodToSpray() {
        check.due("no houses", 2, () -> Check.loaded("R0500000w2").bestSpray(0, 9));
        check.due("no houses, the last segment", 9, () -> Check.loaded(TEN + "w9").bestSpray(0, 1));
        // 72 less of the 90 of a segment: 72 for its house, or 36 for each house beside it.
        check.due("1, 2 and 3, from 2", 2, () -> Check.loaded("R0500000h10h30w2").bestSpray(0, 9));
        check.due("1, 2 and 3, from 3", 3, () -> Check.loaded("R0500000h10h30w3").bestSpray(0, 9));
        check.due("1, 2 and 3, from 4", 3, () -> Check.loaded("R0500000h10h30w4").bestSpray(0, 9));
        check.due("1, 2 and 3, from 0", 1, () -> Check.loaded("R0500000h10h30w0").bestSpray(0, 9));
        check.due("1 and 3, as far from 2", 1, () -> Check.loaded("R0500200h10h30w2").bestSpray(0, 9));
        check.due("0 and 4, as far from 2", 0, () -> Check.loaded("R0500000h00h40w2").bestSpray(0, 9));
        check.due("0 and 4, from 3", 4, () -> Check.loaded("R0500000h00h40w3").bestSpray(0, 9));
        check.due("the best is farther than another", 4, () -> Check.loaded("R0500000h00h40h40w1").bestSpray(0, 9));
    }

    private void nowhereToSpray() {
        RoadDust x = Check.loaded("R0200h00w0w0");
        for (int left = 3; left >= 1; left--) {
            x.spray(0, 1);
            check.due("moves left: " + left, 0, () -> x.bestSpray(0, 9));
        }
        x.spray(0, 1);
        check.due("no moves", RoadDust.NONE, () -> x.bestSpray(0, 1));
        check.due("another wagon's moves", 0, () -> x.bestSpray(1, 1));
        x.spray(1, 9);
        x.spray(1, 9);
        x.spray(1, 2);
        check.due("no liters", RoadDust.NONE, () -> x.bestSpray(1, 1));
        x.pass(1);
        check.due("no liters in the next hour", RoadDust.NONE, () -> x.bestSpray(1, 1));
        check.due("moves in the next hour", 1, () -> x.bestSpray(0, 9));
    }

    private void sprayOfNoWagon() {
        check.throwing("no wagon yet", Check.INDEX, () -> new RoadDust().bestSpray(0, 1));
        RoadDust x = Check.loaded("R010w0w0w0");
        for (int w : new int[] {LEAST, -1, 3, 4, MOST}) {
            check.throwing("wagon " + w, Check.INDEX, () -> x.bestSpray(w, 1));
            check.throwing("wagon " + w + ", no such liters", Check.INDEX, () -> x.bestSpray(w, 0));
        }
        check.due("the last wagon", 0, () -> x.bestSpray(2, 1));
    }

    private void litersOutOfRange() {
        RoadDust x = Check.loaded("R010w0");
        for (int liters : new int[] {LEAST, -1, 0, 10, 11, 20, MOST}) {
            check.throwing("liters " + liters, Check.ARGUMENT, () -> x.bestSpray(0, liters));
        }
        for (int k = 0; k < 4; k++) {
            x.spray(0, 5);
        }
        check.throwing("no such liters, and no move", Check.ARGUMENT, () -> x.bestSpray(0, 10));
    }

    // ---- complainsIn

    private void soonAndLate() {
        RoadDust x = Check.loaded("R010h00");
        check.due("in the next hour", 1, () -> x.complainsIn(0));
        x.set(7, 91);
        check.due("in the second hour", 2, () -> x.complainsIn(0));
        x.set(7, 90);
        check.due("as much as the bound", 1, () -> x.complainsIn(0));
        // The road dries and the dust gathers as slowly as it can: no house that waits longer waits for anything.
        RoadDust late = Check.loaded("R010h04w0");
        late.spray(0, 9);
        late.set(5, 16);
        late.set(6, 3);
        late.set(7, 153);
        late.setLimit(0, 4);
        check.due("later than in twenty hours", 26, () -> late.complainsIn(0));
        check.due("no complaints before it", 0, () -> late.pass(25));
        check.due("the hour in which it complains", 1, () -> late.complainsIn(0));
        check.due("and it does", 1, () -> late.pass(1));
        check.due("and goes on", 1, () -> late.complainsIn(0));
        // The other houses complain at once, and the limit falls before the dust is enough for the house 0.
        RoadDust others = Check.loaded("R010h02h00h00h00");
        others.set(7, 80);
        check.due("others' complaints come between", RoadDust.NONE, () -> others.complainsIn(0));
        check.due("none of its own in fifty hours", 0, () -> ofHouseInFiftyHours(others));
        RoadDust alone = Check.loaded("R010h02");
        alone.set(7, 80);
        check.due("without others it complains", 4, () -> alone.complainsIn(0));
    }

    private static int ofHouseInFiftyHours(RoadDust x) {
        x.pass(50);
        return x.house(0, 3);
    }

    private void never() {
        RoadDust x = Check.loaded("R010h04w0");
        x.spray(0, 9);
        x.set(5, 16);
        x.set(6, 3);
        x.set(7, 154);
        x.setLimit(0, 4);
        check.due("one too little for ever", RoadDust.NONE, () -> x.complainsIn(0));
        check.due("no complaints in fifty hours", 0, () -> x.pass(50));
        check.due("nor then", RoadDust.NONE, () -> x.complainsIn(0));
        RoadDust y = Check.loaded("R010h00");
        y.set(5, 0);
        y.set(7, 1);
        check.due("no dust at all", RoadDust.NONE, () -> y.complainsIn(0));
        RoadDust past = Check.loaded("R010h00");
        past.pass(1);
        past.set(5, 0);
        past.set(7, 68);
        check.due("complaints of the past do not count", RoadDust.NONE, () -> past.complainsIn(0));
        past.set(7, 67);
        check.due("67 lie", 1, () -> past.complainsIn(0));
    }

    // ---- dustiest

    private void dustiestOfAll() {
        check.due("the only segment", 0, () -> Check.loaded("R010h00").dustiest());
        check.due("the first of ten", 0, () -> Check.loaded(TEN + "h00").dustiest());
        check.due("the last of ten", 9, () -> Check.loaded(TEN + "h90").dustiest());
        check.due("more houses", 9, () -> Check.loaded(TEN + "h00h90h90").dustiest());
        check.due("nearer houses", 9, () -> Check.loaded(TEN + "h01h90").dustiest());
        check.due("between two houses and beside a third", 2, () -> Check.loaded("R0500000h10h30h20").dustiest());
        RoadDust x = Check.loaded("R03000h10");
        x.setLimit(1, 2);
        x.setLimit(2, 5);
        // 90, 2 * 60 and 150 come to it.
        check.due("a segment beside it", 2, x::dustiest);
    }

    private void dustOfPartThree() {
        RoadDust x = Check.loaded("R03000h10");
        x.set(7, 200);
        x.setLimit(0, 5);
        x.setLimit(1, 1);
        x.setLimit(2, 4);
        // 150, 2 * 30 and 120 come to it, and 112, 2 * 22 and 90 of these lie.
        check.due("what comes", 0, x::dustiest);
        x.pass(1);
        x.setLimit(0, 1);
        x.setLimit(2, 5);
        // 142, 2 * 52 and 240.
        check.due("what lies and what comes", 2, x::dustiest);
        x.set(5, 0);
        check.due("what lies alone", 0, x::dustiest);
        RoadDust y = Check.loaded("R0200h00w0");
        y.spray(0, 9);
        y.set(6, 9);
        // Three liters dry first: 2 * 36 and 90 come to it; with nine liters it would be 2 * 9, with none 2 * 90.
        check.due("water dries before the dust comes", 1, y::dustiest);
        y.spray(0, 1);
        y.set(7, 200);
        y.pass(1);
        y.setLimit(1, 1);
        // The dust 27 and 67 lie, and 63 and 30 come: 2 * 90 and 97.
        check.due("what lies counts, too", 0, y::dustiest);
    }

    private void equallyDusty() {
        check.due("no houses", 0, () -> new RoadDust().dustiest());
        check.due("no houses, ten segments", 0, () -> Check.loaded(TEN).dustiest());
        check.due("houses at both ends", 0, () -> Check.loaded("R03000h00h20").dustiest());
        RoadDust x = Check.loaded(TEN + "h40");
        x.set(5, 0);
        check.due("no dust", 0, x::dustiest);
        RoadDust y = Check.loaded("R03000h10");
        y.setLimit(0, 2);
        y.setLimit(1, 1);
        y.setLimit(2, 2);
        check.due("60, 2 * 30 and 60", 0, y::dustiest);
        y.setLimit(0, 1);
        check.due("30, 2 * 30 and 60", 1, y::dustiest);
        y.setLimit(2, 3);
        check.due("30, 2 * 30 and 90", 2, y::dustiest);
    }
}
