/** The boundary cases of the promises 6 to 9: what there is. */
final class EdgeThings {
    private static final int[] BELOW = {-1, -2, RoadDust.NONE, Integer.MIN_VALUE};
    private static final int[] ABOVE = {11, 100, Integer.MAX_VALUE};
    private final Check check;

    EdgeThings(Check check) {
        this.check = check;
    }

    void run() {
        check.sentence(6, "Throws IllegalArgumentException if what is not 0 to 12", this::aboutOutOfRange);
        check.sentence(6, "what: 0: S; 1: the number of houses; 2: of wagons; 3: the day; 4: the hour; 5: L; 6: the "
            + "sun; 7: the bound; 8: the water right;", this::firstAndLastAbout);
        check.sentence(6, "9: the liters filled in on this day;", this::litersOfThisDay);
        check.sentence(6, "10: all complaints so far;", this::allComplaints);
        check.sentence(6, "11: liters sprayed so far (also those that were lost);", this::lostLiters);
        check.sentence(6, "12: the dust of all segments", this::dustOfAll);
        check.sentence(7, "Throws IndexOutOfBoundsException if there is no such segment", this::noSuchSegment);
        check.sentence(7, "Throws IllegalArgumentException if what is not 0 to 6", this::segmentOutOfRange);
        check.sentence(7, "5: 1 if it is a filling place, 0 if not;", this::fillingPlaces);
        check.sentence(7, "6: the number of complaints about it so far", this::complaintsAboutIt);
        check.sentence(8, "Throws IndexOutOfBoundsException if there is no such house", this::noSuchHouse);
        check.sentence(8, "Throws IllegalArgumentException if what is not 0 to 4", this::houseOutOfRange);
        check.sentence(8, "4: what it got in the latest hour (0 before the first one)", this::beforeTheFirstHour);
        check.sentence(0, "has a sum of dust and a number of complaints, both at first 0.", this::firstSum);
        check.sentence(9, "Throws IndexOutOfBoundsException if there is no such wagon", this::noSuchWagon);
        check.sentence(9, "Throws IllegalArgumentException if what is not 0 to 2", this::wagonOutOfRange);
        check.sentence(9, "what: 0: its segment; 1: its liters; 2: its moves that are left", this::leastAndMostOfAWagon);
    }

    // ---- about

    private void aboutOutOfRange() {
        RoadDust x = Check.loaded("R010h00w0");
        for (int what : BELOW) {
            check.throwing("about " + what, Check.ARGUMENT, () -> x.about(what));
        }
        for (int what : new int[] {13, 14, 100, Integer.MAX_VALUE}) {
            check.throwing("about " + what, Check.ARGUMENT, () -> x.about(what));
        }
        check.due("the first", 1, () -> x.about(0));
        check.due("the last", 0, () -> x.about(12));
    }

    private void firstAndLastAbout() {
        RoadDust least = new RoadDust();
        least.set(5, 0);
        least.set(6, 0);
        least.set(7, 1);
        least.set(8, 0);
        numbers("the least", least, 4, 0, 0, 0, 0, 0, 0, 1, 0);
        RoadDust most = Check.loaded("R100000000000" + "h00".repeat(8) + "w0w0w0");
        most.set(5, 20);
        most.set(6, 9);
        most.set(7, 200);
        most.set(8, 99);
        most.pass(9);
        numbers("the most, in the last hour of the day 0", most, 10, 8, 3, 0, 9, 20, 9, 200, 99);
        most.pass(1);
        numbers("the most, in the first hour of the day 1", most, 10, 8, 3, 1, 0, 20, 9, 200, 99);
    }

    private void numbers(String name, RoadDust x, int... want) {
        for (int what = 0; what < want.length; what++) {
            int k = what;
            check.due(name + ": about " + k, want[k], () -> x.about(k));
        }
    }

    private void litersOfThisDay() {
        RoadDust x = Check.loaded("R010w0w0");
        x.spray(0, 9);
        x.spray(1, 1);
        check.due("none yet", 0, () -> x.about(9));
        x.fill(0);
        check.due("by a wagon", 9, () -> x.about(9));
        x.fill(1);
        check.due("by both", 10, () -> x.about(9));
        x.set(8, 0);
        check.due("a smaller right takes none back", 10, () -> x.about(9));
        x.pass(9);
        check.due("in the last hour of this day", 10, () -> x.about(9));
        x.pass(1);
        check.due("in the first hour of the next one", 0, () -> x.about(9));
    }

    private void allComplaints() {
        RoadDust x = Check.loaded("R0200h00h19");
        check.due("none yet", 0, () -> x.about(10));
        x.pass(2);
        check.due("of the nearer house", 2, () -> x.about(10));
        x.set(7, 1);
        x.pass(1);
        check.due("of both", 4, () -> x.about(10));
        x.undo();
        check.due("an hour taken back", 2, () -> x.about(10));
        x.pass(10);
        check.due("on the next day", 22, () -> x.about(10));
    }

    private void lostLiters() {
        RoadDust x = Check.loaded("R010w0");
        check.due("none yet", 0, () -> x.about(11));
        x.spray(0, 9);
        check.due("nothing lost", 9, () -> x.about(11));
        x.spray(0, 9);
        check.due("all of the second nine lost", 18, () -> x.about(11));
        x.pass(10);
        check.due("on the next day", 18, () -> x.about(11));
    }

    private void dustOfAll() {
        RoadDust x = Check.loaded("R0200");
        check.due("none yet", 0, () -> x.about(12));
        x.pass(1);
        // 90 come to each; three quarters are 67.5.
        check.due("of two segments", 134, () -> x.about(12));
        RoadDust y = Check.loaded("R010");
        y.pass(1);
        check.due("of one segment", 67, () -> y.about(12));
        RoadDust z = Check.loaded("R100000000000");
        z.set(5, 20);
        for (int s = 0; s < 10; s++) {
            z.setLimit(s, 5);
        }
        z.pass(30);
        check.due("of ten segments that have as much as there can be", 7490, () -> z.about(12));
    }

    // ---- segment

    private void noSuchSegment() {
        String[] roads = {"R010", "R040000", "R100000000000"};
        int[] sizes = {1, 4, 10};
        for (int k = 0; k < roads.length; k++) {
            RoadDust x = Check.loaded(roads[k]);
            int size = sizes[k];
            check.due("the first of " + size, 0, () -> x.segment(0, 0));
            check.due("the last of " + size, 0, () -> x.segment(size - 1, 0));
            check.throwing("behind the last of " + size, Check.INDEX, () -> x.segment(size, 0));
            for (int s : BELOW) {
                check.throwing("segment " + s + " of " + size, Check.INDEX, () -> x.segment(s, 0));
            }
            for (int s : ABOVE) {
                check.throwing("segment " + s + " of " + size, Check.INDEX, () -> x.segment(s, 0));
            }
            check.throwing("no such segment, and no such number", Check.INDEX, () -> x.segment(size, 7));
        }
    }

    private void segmentOutOfRange() {
        RoadDust x = Check.loaded("R0200f1");
        check.due("the first number", 0, () -> x.segment(1, 0));
        check.due("the last number but one", 1, () -> x.segment(1, 5));
        check.due("the last number", 0, () -> x.segment(1, 6));
        for (int what : new int[] {-1, 7, 8, Integer.MIN_VALUE, Integer.MAX_VALUE}) {
            check.throwing("segment 0, " + what, Check.ARGUMENT, () -> x.segment(0, what));
            check.throwing("segment 1, " + what, Check.ARGUMENT, () -> x.segment(1, what));
        }
    }

    private void fillingPlaces() {
        RoadDust all = Check.loaded("R03000f0f1f2");
        RoadDust last = Check.loaded("R03000f2");
        for (int s = 0; s < 3; s++) {
            int t = s;
            check.due("all: " + t, 1, () -> all.segment(t, 5));
            check.due("the last alone: " + t, t == 2 ? 1 : 0, () -> last.segment(t, 5));
        }
    }

    private void complaintsAboutIt() {
        RoadDust x = Check.loaded("R0200h00h00h10");
        check.due("none yet", 0, () -> x.segment(0, 6));
        x.pass(1);
        check.due("of two houses", 2, () -> x.segment(0, 6));
        check.due("of one house", 1, () -> x.segment(1, 6));
        x.set(7, 200);
        x.set(5, 0);
        x.pass(20);
        x.pass(20);
        check.due("they stay, also when nobody complains", 2, () -> x.segment(0, 6));
    }

    // ---- house

    private void noSuchHouse() {
        RoadDust x = new RoadDust();
        check.throwing("house 0, no house yet", Check.INDEX, () -> x.house(0, 0));
        check.throwing("house 0, no house yet and no such number", Check.INDEX, () -> x.house(0, 5));
        for (int i = 0; i < 8; i++) {
            int last = i;
            x.addHouse(3, 9);
            check.due("the last house of " + (last + 1), 3, () -> x.house(last, 0));
            check.throwing("behind the last house of " + (last + 1), Check.INDEX, () -> x.house(last + 1, 0));
        }
        for (int i : BELOW) {
            check.throwing("house " + i, Check.INDEX, () -> x.house(i, 0));
        }
        for (int i : ABOVE) {
            check.throwing("house " + i, Check.INDEX, () -> x.house(i, 0));
        }
        x.undo();
        check.throwing("a house that was taken back", Check.INDEX, () -> x.house(7, 0));
    }

    private void houseOutOfRange() {
        RoadDust x = Check.loaded("R010h03h04");
        check.due("the first number", 0, () -> x.house(1, 0));
        check.due("the second number", 4, () -> x.house(1, 1));
        check.due("the last number", 0, () -> x.house(1, 4));
        for (int what : new int[] {-1, 5, 6, Integer.MIN_VALUE, Integer.MAX_VALUE}) {
            check.throwing("house 0, " + what, Check.ARGUMENT, () -> x.house(0, what));
            check.throwing("house 1, " + what, Check.ARGUMENT, () -> x.house(1, what));
        }
    }

    private void beforeTheFirstHour() {
        RoadDust x = Check.loaded("R010h00");
        check.due("before the first hour", 0, () -> x.house(0, 4));
        x.pass(1);
        check.due("after the first hour", 90, () -> x.house(0, 4));
        x.pass(2);
        // 90 and 67 are 157; 90 and 117 are 207: not what it got in the first hour, and not the sum.
        check.due("in the latest of three hours", 207, () -> x.house(0, 4));
        x.undo();
        x.undo();
        check.due("when the first hour is taken back", 0, () -> x.house(0, 4));
    }

    private void firstSum() {
        RoadDust x = Check.loaded("R010h00");
        x.pass(3);
        x.addHouse(0, 9);
        for (int what = 2; what <= 3; what++) {
            int k = what;
            check.due("a house built later, " + k, 0, () -> x.house(1, k));
        }
        x.pass(2);
        x.undo();
        x.undo();
        x.addHouse(0, 8);
        for (int what = 2; what <= 4; what++) {
            int k = what;
            check.due("a house in the place of one that was taken back, " + k, 0, () -> x.house(1, k));
        }
        check.due("a house told in the text: its sum", 0, () -> Check.loaded("R010h00").house(0, 2));
        check.due("a house told in the text: its complaints", 0, () -> Check.loaded("R010h00").house(0, 3));
    }

    // ---- wagon

    private void noSuchWagon() {
        RoadDust x = new RoadDust();
        check.throwing("wagon 0, no wagon yet", Check.INDEX, () -> x.wagon(0, 0));
        check.throwing("wagon 0, no wagon yet and no such number", Check.INDEX, () -> x.wagon(0, 3));
        for (int w = 0; w < 3; w++) {
            int last = w;
            x.addWagon(3);
            check.due("the last wagon of " + (last + 1), 3, () -> x.wagon(last, 0));
            check.throwing("behind the last wagon of " + (last + 1), Check.INDEX, () -> x.wagon(last + 1, 0));
        }
        for (int w : BELOW) {
            check.throwing("wagon " + w, Check.INDEX, () -> x.wagon(w, 0));
        }
        for (int w : ABOVE) {
            check.throwing("wagon " + w, Check.INDEX, () -> x.wagon(w, 0));
        }
        x.undo();
        check.throwing("a wagon that was taken back", Check.INDEX, () -> x.wagon(2, 0));
    }

    private void wagonOutOfRange() {
        RoadDust x = Check.loaded("R0200w0w1");
        check.due("the first number", 1, () -> x.wagon(1, 0));
        check.due("the last number", 4, () -> x.wagon(1, 2));
        for (int what : new int[] {-1, 3, 4, Integer.MIN_VALUE, Integer.MAX_VALUE}) {
            check.throwing("wagon 0, " + what, Check.ARGUMENT, () -> x.wagon(0, what));
            check.throwing("wagon 1, " + what, Check.ARGUMENT, () -> x.wagon(1, what));
        }
    }

    private void leastAndMostOfAWagon() {
        RoadDust x = Check.loaded("R100000000000w9w0");
        check.due("in the last segment", 9, () -> x.wagon(0, 0));
        check.due("in the first segment", 0, () -> x.wagon(1, 0));
        check.due("a full tank", 20, () -> x.wagon(0, 1));
        check.due("all moves", 4, () -> x.wagon(0, 2));
        x.spray(0, 9);
        x.spray(0, 9);
        x.spray(0, 1);
        check.due("one liter", 1, () -> x.wagon(0, 1));
        check.due("one move", 1, () -> x.wagon(0, 2));
        x.spray(0, 1);
        check.due("no liters", 0, () -> x.wagon(0, 1));
        check.due("no moves", 0, () -> x.wagon(0, 2));
        check.due("another wagon's liters", 20, () -> x.wagon(1, 1));
        check.due("another wagon's moves", 4, () -> x.wagon(1, 2));
    }
}
