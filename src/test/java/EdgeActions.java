/** The boundary cases of the promises 10 to 17: the actions but for hours and undo. */
final class EdgeActions {
    private static final int LEAST = Integer.MIN_VALUE;
    private static final int MOST = Integer.MAX_VALUE;
    private final Check check;

    EdgeActions(Check check) {
        this.check = check;
    }

    void run() {
        houses();
        wagons();
        surfaces();
        limits();
        numbers();
        drives();
        sprays();
        fills();
    }

    private void houses() {
        check.sentence(0, "There are at most 8 houses, numbered from 0; a house is beside a segment, at a distance from 0 "
            + "to 9,", this::eightHouses);
        check.sentence(10, "Returns its number.", this::houseNumbers);
        check.sentence(10, "distance: 0 to 9", this::leastAndMostDistance);
        check.sentence(10, "Throws IndexOutOfBoundsException if there is no such segment", this::houseNowhere);
        check.sentence(10, "Throws IllegalArgumentException if distance is out of range", this::houseTooFar);
        check.sentence(10, "Throws IllegalStateException if there are 8 houses", this::ninthHouse);
    }

    private void wagons() {
        check.sentence(0, "There are at most 3 wagons, numbered from 0;", this::threeWagons);
        check.sentence(11, "Adds a wagon, with 20 liters and 4 moves.", this::newWagon);
        check.sentence(11, "Returns its number.", this::wagonNumbers);
        check.sentence(11, "Throws IndexOutOfBoundsException if there is no such segment", this::wagonNowhere);
        check.sentence(11, "Throws IllegalStateException if there are 3 wagons", this::fourthWagon);
    }

    private void surfaces() {
        check.sentence(12, "surface: 0 to 2", this::eachSurface);
        check.sentence(12, "Returns the previous surface.", this::previousSurface);
        check.sentence(12, "Throws IndexOutOfBoundsException if there is no such segment", this::surfaceOfNoSegment);
        check.sentence(12, "Throws IllegalArgumentException if surface is out of range", this::noSuchSurface);
    }

    private void limits() {
        check.sentence(13, "limit: 1 to 5", this::eachLimit);
        check.sentence(13, "Returns the previous limit.", this::previousLimit);
        check.sentence(13, "Throws IndexOutOfBoundsException if there is no such segment", this::limitOfNoSegment);
        check.sentence(13, "Throws IllegalArgumentException if limit is out of range", this::noSuchLimit);
        check.sentence(13, "Throws IllegalStateException if limit is greater than 5 - the rank of the segment",
            this::limitOfEachRank);
    }

    private void numbers() {
        check.sentence(14, "what: 5: L, 0 to 20; 6: the sun, 0 to 9; 7: the bound, 1 to 200; 8: the water right, 0 to 99",
            this::leastAndMostNumbers);
        check.sentence(14, "Returns the previous number.", this::previousNumber);
        check.sentence(14, "v: new number, in its range", this::rangesByNumber);
        check.sentence(14, "Throws IllegalArgumentException if what is none of these, or v is out of range",
            this::numbersOutOfRange);
        check.sentence(0, "In each day, all wagons together may fill in as many liters as the water right tells, 0 to 99, "
            + "at first 40.", this::rightOfAll);
    }

    private void drives() {
        check.sentence(15, "each segment on its way (the last one included, the first one not) takes a move.",
            this::eachSegmentTakesAMove);
        check.sentence(15, "Returns its moves that are left then.", this::movesLeft);
        check.sentence(15, "Throws IndexOutOfBoundsException if there is no such wagon or segment", this::driveNowhere);
        check.sentence(15, "Throws IllegalStateException if it has too few moves", this::tooFewMoves);
    }

    private void sprays() {
        check.sentence(16, "liters: 1 to 9", this::leastAndMostLiters);
        check.sentence(16, "Its water increases by so much, but not above 9 (what is too much is lost).",
            this::waterNotAboveNine);
        check.sentence(16, "This takes a move.", this::sprayTakesAMove);
        check.sentence(16, "Returns the water of the segment then.", this::waterThen);
        check.sentence(16, "Throws IndexOutOfBoundsException if there is no such wagon", this::sprayByNone);
        check.sentence(16, "Throws IllegalArgumentException if liters is out of range", this::noSuchLiters);
        check.sentence(16, "Throws IllegalStateException if it has no move, or not so many liters",
            this::noMoveOrNotSoMany);
    }

    private void fills() {
        check.sentence(0, "a wagon is in a segment, has a tank with 0 to 20 liters (at first 20), and 0 to 4 moves that "
            + "are left in this hour (at first 4).", this::emptyToFull);
        check.sentence(17, "Fills the tank of a wagon, up to 20 liters, as far as the water right of this day allows it.",
            this::tankAndRight);
        check.sentence(17, "This takes a move.", this::fillTakesAMove);
        check.sentence(17, "Returns how many liters are filled in.", this::litersFilledIn);
        check.sentence(17, "Throws IndexOutOfBoundsException if there is no such wagon", this::fillOfNone);
        check.sentence(17, "Throws IllegalStateException if whyNoFill() of it is not 0", this::noFill);
    }

    // ---- addHouse

    private void eightHouses() {
        RoadDust x = Check.loaded("R0200");
        check.due("no house", 0, () -> x.about(1));
        for (int i = 0; i < 8; i++) {
            int h = i;
            x.addHouse(1, 9 - h);
            check.due("houses", h + 1, () -> x.about(1));
            check.due("house " + h + " is beside", 1, () -> x.house(h, 0));
            check.due("house " + h + " is away", 9 - h, () -> x.house(h, 1));
        }
        check.throwing("one more", Check.STATE, () -> x.addHouse(1, 0));
        check.due("houses at last", 8, () -> x.about(1));
    }

    private void houseNumbers() {
        RoadDust x = Check.loaded("R010" + "h00".repeat(6));
        check.due("behind six of the text", 6, () -> x.addHouse(0, 0));
        check.due("the last one", 7, () -> x.addHouse(0, 0));
        x.undo();
        check.due("the last one, once more", 7, () -> x.addHouse(0, 0));
        check.due("the first one", 0, () -> new RoadDust().addHouse(0, 0));
    }

    private void leastAndMostDistance() {
        RoadDust x = new RoadDust();
        check.due("the least distance", 0, () -> x.addHouse(0, 0));
        check.due("the greatest distance", 1, () -> x.addHouse(3, 9));
        check.due("the least one", 0, () -> x.house(0, 1));
        check.due("the greatest one", 9, () -> x.house(1, 1));
    }

    private void houseNowhere() {
        RoadDust x = Check.loaded("R0200");
        check.due("beside the first segment", 0, () -> x.addHouse(0, 5));
        check.due("beside the last segment", 1, () -> x.addHouse(1, 5));
        for (int s : new int[] {-1, 2, 4, 10, LEAST, MOST}) {
            check.throwing("beside " + s, Check.INDEX, () -> x.addHouse(s, 5));
        }
        check.due("beside the last of ten segments", 0, () -> Check.loaded("R100000000000").addHouse(9, 0));
        check.throwing("beside an eleventh", Check.INDEX, () -> Check.loaded("R100000000000").addHouse(10, 0));
    }

    private void houseTooFar() {
        RoadDust x = new RoadDust();
        for (int distance : new int[] {-1, 10, 11, LEAST, MOST}) {
            check.throwing("distance " + distance, Check.ARGUMENT, () -> x.addHouse(3, distance));
        }
        check.due("houses", 0, () -> x.about(1));
    }

    private void ninthHouse() {
        RoadDust x = Check.loaded("R010" + "h00".repeat(8));
        check.throwing("a ninth one behind eight of the text", Check.STATE, () -> x.addHouse(0, 0));
        check.due("houses", 8, () -> x.about(1));
        RoadDust y = Check.loaded("R010" + "h00".repeat(7));
        check.due("an eighth one", 7, () -> y.addHouse(0, 9));
        check.throwing("a ninth one", Check.STATE, () -> y.addHouse(0, 9));
        y.undo();
        check.due("an eighth one when the eighth is taken back", 7, () -> y.addHouse(0, 9));
    }

    // ---- addWagon

    private void threeWagons() {
        RoadDust x = Check.loaded("R0200");
        check.due("no wagon", 0, () -> x.about(2));
        for (int w = 0; w < 3; w++) {
            int last = w;
            x.addWagon(last % 2);
            check.due("wagons", last + 1, () -> x.about(2));
            check.due("wagon " + last + " is in", last % 2, () -> x.wagon(last, 0));
        }
        check.throwing("one more", Check.STATE, () -> x.addWagon(0));
        check.due("wagons at last", 3, () -> x.about(2));
    }

    private void newWagon() {
        RoadDust x = Check.loaded("R010w0");
        x.spray(0, 9);
        x.pass(1);
        x.spray(0, 9);
        x.addWagon(0);
        check.due("liters", 20, () -> x.wagon(1, 1));
        check.due("moves", 4, () -> x.wagon(1, 2));
        check.due("the other's liters", 2, () -> x.wagon(0, 1));
        check.due("the other's moves", 3, () -> x.wagon(0, 2));
    }

    private void wagonNumbers() {
        RoadDust x = Check.loaded("R010w0");
        check.due("behind one of the text", 1, () -> x.addWagon(0));
        check.due("the last one", 2, () -> x.addWagon(0));
        x.undo();
        check.due("the last one, once more", 2, () -> x.addWagon(0));
        check.due("the first one", 0, () -> new RoadDust().addWagon(0));
    }

    private void wagonNowhere() {
        RoadDust x = Check.loaded("R0200");
        check.due("in the first segment", 0, () -> x.addWagon(0));
        check.due("in the last segment", 1, () -> x.addWagon(1));
        for (int s : new int[] {-1, 2, 4, 10, LEAST, MOST}) {
            check.throwing("in " + s, Check.INDEX, () -> x.addWagon(s));
        }
        check.due("in the last of ten segments", 0, () -> Check.loaded("R100000000000").addWagon(9));
        check.throwing("in an eleventh", Check.INDEX, () -> Check.loaded("R100000000000").addWagon(10));
    }

    private void fourthWagon() {
        RoadDust x = Check.loaded("R010w0w0w0");
        check.throwing("a fourth one behind three of the text", Check.STATE, () -> x.addWagon(0));
        check.due("wagons", 3, () -> x.about(2));
        RoadDust y = Check.loaded("R010w0w0");
        check.due("a third one", 2, () -> y.addWagon(0));
        check.throwing("a fourth one", Check.STATE, () -> y.addWagon(0));
        y.undo();
        check.due("a third one when the third is taken back", 2, () -> y.addWagon(0));
    }

    // ---- setSurface

    private void eachSurface() {
        RoadDust x = new RoadDust();
        for (int surface : new int[] {2, 0, 1}) {
            x.setSurface(0, surface);
            x.setSurface(3, 2 - surface);
            check.due("the first segment's", surface, () -> x.segment(0, 0));
            check.due("the last segment's", 2 - surface, () -> x.segment(3, 0));
            check.due("another segment's", 0, () -> x.segment(1, 0));
        }
    }

    private void previousSurface() {
        RoadDust x = Check.loaded("R0221");
        check.due("the text's", 2, () -> x.setSurface(0, 2));
        check.due("as it was", 2, () -> x.setSurface(0, 0));
        check.due("the least", 0, () -> x.setSurface(0, 1));
        check.due("another segment's", 1, () -> x.setSurface(1, 0));
    }

    private void surfaceOfNoSegment() {
        RoadDust x = Check.loaded("R0200");
        for (int s : new int[] {-1, 2, 4, 10, LEAST, MOST}) {
            check.throwing("surface of " + s, Check.INDEX, () -> x.setSurface(s, 1));
        }
        check.due("the last of ten segments", 2, () -> Check.loaded("R100000000002").setSurface(9, 0));
        check.throwing("an eleventh", Check.INDEX, () -> Check.loaded("R100000000002").setSurface(10, 0));
    }

    private void noSuchSurface() {
        RoadDust x = Check.loaded("R0201");
        for (int surface : new int[] {-1, 3, 4, LEAST, MOST}) {
            check.throwing("surface " + surface, Check.ARGUMENT, () -> x.setSurface(1, surface));
        }
        check.due("it stays", 1, () -> x.segment(1, 0));
    }

    // ---- setLimit

    private void eachLimit() {
        RoadDust x = new RoadDust();
        for (int limit : new int[] {1, 5, 2, 4}) {
            x.setLimit(0, limit);
            x.setLimit(3, 6 - limit);
            check.due("the first segment's", limit, () -> x.segment(0, 1));
            check.due("the last segment's", 6 - limit, () -> x.segment(3, 1));
            check.due("another segment's", 3, () -> x.segment(1, 1));
        }
    }

    private void previousLimit() {
        RoadDust x = rankOf(0);
        check.due("at first", 3, () -> x.setLimit(0, 5));
        check.due("the greatest", 5, () -> x.setLimit(0, 5));
        x.pass(1);
        check.due("what the complaints left of it", 4, () -> x.setLimit(0, 1));
        check.due("the least", 1, () -> x.setLimit(0, 4));
    }

    private void limitOfNoSegment() {
        RoadDust x = Check.loaded("R0200");
        for (int s : new int[] {-1, 2, 4, 10, LEAST, MOST}) {
            check.throwing("limit of " + s, Check.INDEX, () -> x.setLimit(s, 1));
        }
        check.due("the last of ten segments", 3, () -> Check.loaded("R100000000000").setLimit(9, 5));
        check.throwing("an eleventh", Check.INDEX, () -> Check.loaded("R100000000000").setLimit(10, 5));
    }

    private void noSuchLimit() {
        for (int rank = 0; rank <= 4; rank++) {
            RoadDust x = rankOf(rank);
            for (int limit : new int[] {-1, 0, 6, 7, LEAST, MOST}) {
                check.throwing("limit " + limit + " at the rank " + rank, Check.ARGUMENT, () -> x.setLimit(0, limit));
            }
        }
    }

    private void limitOfEachRank() {
        for (int rank = 0; rank <= 4; rank++) {
            RoadDust x = rankOf(rank);
            int now = rank;
            check.due("the rank", now, () -> x.segment(0, 2));
            for (int limit = 1; limit <= 5; limit++) {
                int next = limit;
                String what = "limit " + next + " at the rank " + now;
                if (next <= 5 - now) {
                    x.setLimit(0, 1);
                    check.due(what, 1, () -> x.setLimit(0, next));
                    check.due(what + " then", next, () -> x.segment(0, 1));
                } else {
                    check.throwing(what, Check.STATE, () -> x.setLimit(0, next));
                    check.due(what + " then", 5 - now, () -> x.segment(0, 1));
                }
            }
            check.due("limit 5 beside it", 3, () -> x.setLimit(1, 5));
        }
    }

    /** A road whose segment 0 has this rank: three houses complain in each hour. */
    private static RoadDust rankOf(int rank) {
        RoadDust x = Check.loaded("R0200h00h00h00");
        for (int k = 0; k < rank; k++) {
            x.pass(1);
        }
        return x;
    }

    // ---- set

    private void leastAndMostNumbers() {
        int[] least = {0, 0, 1, 0};
        int[] most = {20, 9, 200, 99};
        int[] first = {10, 5, 50, 40};
        RoadDust x = new RoadDust();
        for (int k = 0; k < 4; k++) {
            int what = k + 5;
            int low = least[k];
            int high = most[k];
            check.due("the least of " + what, first[k], () -> x.set(what, low));
            check.due("it is", low, () -> x.about(what));
            check.throwing("below the least of " + what, Check.ARGUMENT, () -> x.set(what, low - 1));
            check.due("it is still", low, () -> x.about(what));
            check.due("the most of " + what, low, () -> x.set(what, high));
            check.due("it is", high, () -> x.about(what));
            check.throwing("above the most of " + what, Check.ARGUMENT, () -> x.set(what, high + 1));
            check.due("it is still", high, () -> x.about(what));
        }
    }

    private void previousNumber() {
        RoadDust x = new RoadDust();
        for (int what = 5; what <= 8; what++) {
            int k = what;
            int first = x.about(k);
            check.due("at first " + k, first, () -> x.set(k, 1));
            check.due("as it was " + k, 1, () -> x.set(k, 1));
            check.due("and then " + k, 1, () -> x.set(k, 9));
            check.due("at last " + k, 9, () -> x.set(k, 2));
        }
    }

    private void rangesByNumber() {
        RoadDust x = new RoadDust();
        check.due("lorries 10", 10, () -> x.set(5, 10));
        check.throwing("sun 10", Check.ARGUMENT, () -> x.set(6, 10));
        check.due("bound 100", 50, () -> x.set(7, 100));
        check.throwing("water right 100", Check.ARGUMENT, () -> x.set(8, 100));
        check.throwing("lorries 21", Check.ARGUMENT, () -> x.set(5, 21));
        check.due("water right 21", 40, () -> x.set(8, 21));
        check.throwing("bound 0", Check.ARGUMENT, () -> x.set(7, 0));
        check.due("lorries 0", 10, () -> x.set(5, 0));
    }

    private void numbersOutOfRange() {
        RoadDust x = new RoadDust();
        for (int what : new int[] {LEAST, -1, 0, 1, 2, 3, 4, 9, 10, 11, 12, 13, MOST}) {
            check.throwing("set " + what + " to 1", Check.ARGUMENT, () -> x.set(what, 1));
            check.throwing("set " + what + " to -1", Check.ARGUMENT, () -> x.set(what, -1));
        }
        for (int what = 5; what <= 8; what++) {
            int k = what;
            check.throwing("set " + k + " to the least int", Check.ARGUMENT, () -> x.set(k, LEAST));
            check.throwing("set " + k + " to the greatest int", Check.ARGUMENT, () -> x.set(k, MOST));
        }
    }

    private void rightOfAll() {
        check.due("at first", 40, () -> new RoadDust().about(8));
        RoadDust x = Check.loaded("R010w0w0w0");
        for (int w = 0; w < 3; w++) {
            x.spray(w, 9);
            x.spray(w, 9);
        }
        check.due("18 by the first", 18, () -> x.fill(0));
        check.due("18 by the second", 18, () -> x.fill(1));
        check.due("what is left by the third", 4, () -> x.fill(2));
        check.throwing("nothing more by the third", Check.STATE, () -> x.fill(2));
        x.set(8, 0);
        check.throwing("nothing more when there is no right", Check.STATE, () -> x.fill(2));
        x.set(8, 99);
        check.due("as much as it needs by the third", 14, () -> x.fill(2));
        check.due("all together", 54, () -> x.about(9));
    }

    // ---- drive

    private void eachSegmentTakesAMove() {
        for (int way = 0; way <= 4; way++) {
            int segments = way;
            RoadDust forth = Check.loaded("R100000000000w0");
            check.due("forth " + segments, 4 - segments, () -> forth.drive(0, segments));
            check.due("it is in", segments, () -> forth.wagon(0, 0));
            RoadDust back = Check.loaded("R100000000000w9");
            check.due("back " + segments, 4 - segments, () -> back.drive(0, 9 - segments));
            check.due("it is in", 9 - segments, () -> back.wagon(0, 0));
            check.due("its liters", 20, () -> back.wagon(0, 1));
        }
    }

    private void movesLeft() {
        RoadDust x = Check.loaded("R03000w0w2");
        check.due("to where it is", 4, () -> x.drive(0, 0));
        check.due("one", 3, () -> x.drive(0, 1));
        check.due("one more", 2, () -> x.drive(0, 2));
        check.due("two back", 0, () -> x.drive(0, 0));
        check.due("to where it is, without moves", 0, () -> x.drive(0, 0));
        check.due("they are its own", 4, () -> x.wagon(1, 2));
        x.pass(1);
        check.due("in the next hour", 2, () -> x.drive(0, 2));
    }

    private void driveNowhere() {
        RoadDust none = new RoadDust();
        check.throwing("no wagon yet", Check.INDEX, () -> none.drive(0, 0));
        RoadDust x = Check.loaded("R03000w0w0");
        for (int w : new int[] {-1, 2, 3, LEAST, MOST}) {
            check.throwing("wagon " + w, Check.INDEX, () -> x.drive(w, 0));
            check.throwing("wagon " + w + " to nowhere", Check.INDEX, () -> x.drive(w, 3));
        }
        for (int s : new int[] {-1, 3, 4, 10, LEAST, MOST}) {
            check.throwing("to " + s, Check.INDEX, () -> x.drive(1, s));
        }
        check.due("the last wagon to the last segment", 2, () -> x.drive(1, 2));
        RoadDust full = Check.loaded("R100000000000w9w9w9");
        check.throwing("a fourth wagon", Check.INDEX, () -> full.drive(3, 9));
        check.throwing("to an eleventh segment", Check.INDEX, () -> full.drive(2, 10));
    }

    private void tooFewMoves() {
        RoadDust x = Check.loaded("R100000000000w0w9");
        check.throwing("five segments with four moves", Check.STATE, () -> x.drive(0, 5));
        check.throwing("nine segments with four moves", Check.STATE, () -> x.drive(0, 9));
        check.throwing("five segments back with four moves", Check.STATE, () -> x.drive(1, 4));
        check.due("it stays", 0, () -> x.wagon(0, 0));
        check.due("it keeps its moves", 4, () -> x.wagon(0, 2));
        for (int left = 3; left >= 0; left--) {
            int moves = left;
            x.spray(0, 1);
            check.throwing("one segment too far with " + moves + " moves", Check.STATE, () -> x.drive(0, moves + 1));
        }
        check.due("four segments with four moves", 0, () -> x.drive(1, 5));
        check.throwing("one segment without moves", Check.STATE, () -> x.drive(1, 6));
        check.throwing("one segment back without moves", Check.STATE, () -> x.drive(1, 4));
    }

    // ---- spray

    private void leastAndMostLiters() {
        RoadDust x = Check.loaded("R0200w0w1");
        check.due("the least", 1, () -> x.spray(0, 1));
        check.due("its liters", 19, () -> x.wagon(0, 1));
        check.due("the most", 9, () -> x.spray(1, 9));
        check.due("its liters", 11, () -> x.wagon(1, 1));
    }

    private void waterNotAboveNine() {
        for (int water = 1; water <= 9; water++) {
            for (int liters = 1; liters <= 9; liters++) {
                RoadDust x = Check.loaded("R010w0");
                int first = water;
                int more = liters;
                x.spray(0, first);
                check.due(first + " and " + more, Math.min(9, first + more), () -> x.spray(0, more));
                check.due("liters left of " + first + " and " + more, 20 - first - more, () -> x.wagon(0, 1));
                check.due("liters sprayed of " + first + " and " + more, first + more, () -> x.about(11));
            }
        }
    }

    private void sprayTakesAMove() {
        RoadDust x = Check.loaded("R010w0w0");
        for (int k = 1; k <= 4; k++) {
            int sprayed = k;
            x.spray(0, 1);
            check.due("moves after " + sprayed, 4 - sprayed, () -> x.wagon(0, 2));
        }
        check.throwing("a fifth one", Check.STATE, () -> x.spray(0, 1));
        check.due("another's moves", 4, () -> x.wagon(1, 2));
    }

    private void waterThen() {
        RoadDust x = Check.loaded("R0200w1");
        check.due("from nothing", 4, () -> x.spray(0, 4));
        check.due("beside what is there", 8, () -> x.spray(0, 4));
        check.due("up to the most", 9, () -> x.spray(0, 1));
        check.due("at the most", 9, () -> x.spray(0, 1));
        check.due("its segment", 9, () -> x.segment(1, 4));
        check.due("another segment", 0, () -> x.segment(0, 4));
    }

    private void sprayByNone() {
        RoadDust none = new RoadDust();
        check.throwing("no wagon yet", Check.INDEX, () -> none.spray(0, 1));
        check.throwing("no wagon yet, no such liters", Check.INDEX, () -> none.spray(0, 0));
        RoadDust x = Check.loaded("R010w0w0w0");
        for (int w : new int[] {-1, 3, 4, LEAST, MOST}) {
            check.throwing("wagon " + w, Check.INDEX, () -> x.spray(w, 1));
            check.throwing("wagon " + w + ", no such liters", Check.INDEX, () -> x.spray(w, 10));
        }
        check.due("the last wagon", 1, () -> x.spray(2, 1));
    }

    private void noSuchLiters() {
        RoadDust x = Check.loaded("R010w0");
        for (int liters : new int[] {-1, 0, 10, 11, 20, LEAST, MOST}) {
            check.throwing("liters " + liters, Check.ARGUMENT, () -> x.spray(0, liters));
        }
        check.due("its liters", 20, () -> x.wagon(0, 1));
        check.due("its moves", 4, () -> x.wagon(0, 2));
        check.due("the water", 0, () -> x.segment(0, 4));
    }

    private void noMoveOrNotSoMany() {
        RoadDust x = Check.loaded("R0200w0w0");
        x.spray(0, 9);
        x.spray(0, 6);
        check.throwing("six of five liters", Check.STATE, () -> x.spray(0, 6));
        check.throwing("nine of five liters", Check.STATE, () -> x.spray(0, 9));
        check.due("five of five liters", 9, () -> x.spray(0, 5));
        check.throwing("one of no liters", Check.STATE, () -> x.spray(0, 1));
        check.due("a last move is left", 1, () -> x.wagon(0, 2));
        x.drive(1, 1);
        x.drive(1, 0);
        x.drive(1, 1);
        check.due("with the last move", 2, () -> x.spray(1, 2));
        check.throwing("without a move", Check.STATE, () -> x.spray(1, 1));
        check.due("liters that are left", 18, () -> x.wagon(1, 1));
        check.due("liters sprayed", 22, () -> x.about(11));
        x.pass(1);
        check.due("in the next hour", 9, () -> x.spray(1, 9));
        check.throwing("one of no liters in the next hour", Check.STATE, () -> x.spray(0, 1));
    }

    // ---- fill

    private void emptyToFull() {
        RoadDust x = Check.loaded("R010w0");
        check.due("at first", 20, () -> x.wagon(0, 1));
        check.due("moves at first", 4, () -> x.wagon(0, 2));
        x.spray(0, 9);
        x.spray(0, 9);
        x.spray(0, 2);
        check.due("an empty tank", 0, () -> x.wagon(0, 1));
        check.due("all of it", 20, () -> x.fill(0));
        check.due("a full tank", 20, () -> x.wagon(0, 1));
        check.due("no moves", 0, () -> x.wagon(0, 2));
        x.pass(1);
        check.due("moves in the next hour", 4, () -> x.wagon(0, 2));
        x.pass(1);
        check.due("no more than four", 4, () -> x.wagon(0, 2));
        check.throwing("a full tank takes no more", Check.STATE, () -> x.fill(0));
        check.due("it is full", 20, () -> x.wagon(0, 1));
    }

    /** A wagon lacks nine liters; the right leaves so many. */
    private void nineAnd(int right, int filled) {
        RoadDust x = Check.loaded("R010w0");
        x.spray(0, 9);
        x.set(8, right);
        check.due("nine of " + right, filled, () -> x.fill(0));
        check.due("its liters", 11 + filled, () -> x.wagon(0, 1));
        check.due("filled on this day", filled, () -> x.about(9));
    }

    private void tankAndRight() {
        nineAnd(99, 9);
        nineAnd(10, 9);
        nineAnd(9, 9);
        nineAnd(8, 8);
        nineAnd(1, 1);
        RoadDust x = Check.loaded("R010w0");
        x.spray(0, 1);
        check.due("one liter to a full tank", 1, () -> x.fill(0));
        x.set(8, 2);
        x.spray(0, 9);
        check.due("the last liter of the right", 1, () -> x.fill(0));
        check.throwing("and no more on this day", Check.STATE, () -> x.fill(0));
        x.pass(10);
        check.due("the whole right on the next day", 2, () -> x.fill(0));
    }

    private void fillTakesAMove() {
        RoadDust x = Check.loaded("R010w0w0");
        x.spray(0, 9);
        x.set(8, 1);
        x.fill(0);
        check.due("one of four moves is sprayed, one filled", 2, () -> x.wagon(0, 2));
        check.due("another's moves", 4, () -> x.wagon(1, 2));
        x.set(8, 99);
        x.spray(0, 1);
        check.due("with the last move", 9, () -> x.fill(0));
        check.due("no moves", 0, () -> x.wagon(0, 2));
        check.throwing("nothing more in this hour", Check.STATE, () -> x.spray(0, 1));
    }

    private void litersFilledIn() {
        for (int liters = 1; liters <= 9; liters++) {
            int lacking = liters;
            RoadDust x = Check.loaded("R010w0");
            x.spray(0, lacking);
            check.due("liters that it lacks", lacking, () -> x.fill(0));
            check.due("then it is full", 20, () -> x.wagon(0, 1));
        }
    }

    private void fillOfNone() {
        RoadDust none = new RoadDust();
        check.throwing("no wagon yet", Check.INDEX, () -> none.fill(0));
        RoadDust x = Check.loaded("R010w0w0w0");
        x.spray(2, 3);
        for (int w : new int[] {-1, 3, 4, LEAST, MOST}) {
            check.throwing("wagon " + w, Check.INDEX, () -> x.fill(w));
        }
        check.due("the last wagon", 3, () -> x.fill(2));
    }

    private void noFill() {
        RoadDust x = Check.loaded("R0200w0w1w0");
        check.due("why: its tank is full", 3, () -> x.whyNoFill(0));
        check.throwing("its tank is full", Check.STATE, () -> x.fill(0));
        x.spray(1, 9);
        check.due("why: no filling place", 2, () -> x.whyNoFill(1));
        check.throwing("no filling place", Check.STATE, () -> x.fill(1));
        x.spray(0, 9);
        x.set(8, 0);
        check.due("why: no right", 4, () -> x.whyNoFill(0));
        check.throwing("no right", Check.STATE, () -> x.fill(0));
        for (int k = 0; k < 4; k++) {
            x.spray(2, 1);
        }
        x.set(8, 40);
        check.due("why: no move", 1, () -> x.whyNoFill(2));
        check.throwing("no move", Check.STATE, () -> x.fill(2));
        check.due("why not: nothing", 0, () -> x.whyNoFill(0));
        check.due("nothing hinders it", 9, () -> x.fill(0));
    }
}
