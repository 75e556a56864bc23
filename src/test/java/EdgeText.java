import java.util.function.ToIntFunction;

/** The boundary cases of the promises 1 to 5, of the road and of the text. */
final class EdgeText {
    private static final int[] WILD = {Integer.MIN_VALUE, -9, -2, -1, 256, 257, 300, Integer.MAX_VALUE};
    private static final String FULLEST =
        "R100120120122f9f8f7f6f5f4f3f2f1f0w9w0w9h99h00h90h09h55h54h45h44";
    private final Check check;

    EdgeText(Check check) {
        this.check = check;
    }

    void run() {
        check.sentence(0, "An object is used for at most 512 calls after it has been made", this::manyCalls);
        check.sentence(0, "The constants: NONE = -9: There is no such result.", this::none);
        check.sentence(0, "The road has S segments, 1 to 10, numbered from 0, at first 4.", this::segments);
        check.sentence(0, "A segment has a surface (0: gravel, 1: chippings, 2: paved; at first 0),", this::eachSurface);
        check.sentence(0, "a limit from 1 to 5 (at first 3), a rank from 0 to 4 (at first 0), dust from 0 to 999 (at "
            + "first 0) and water from 0 to 9 (at first 0)", this::firstSegments);
        check.sentence(0, "it is a filling place or not (at first only the segment 0 is one)", this::firstFillingPlace);
        check.sentence(0, "There are L lorries in each hour, 0 to 20, at first 10, and the sun, 0 to 9, at first 5.",
            this::firstNumbers);
        check.sentence(1, "Creates a road of 4 segments without houses and wagons.", this::newObject);
        check.sentence(2, "c: character code, 0 to 255", this::codes);
        check.sentence(2, "Returns the new length of the text.", this::newLengths);
        check.sentence(2, "Throws IllegalArgumentException if c is out of range", this::codesOutOfRange);
        check.sentence(2, "Throws IllegalStateException if the text already has 70 characters", this::fullText);
        check.sentence(0, "The object has a text buffer of at most 70 characters.", this::roomForText);
        check.sentence(3, "Empties the text buffer.", this::emptied);
        check.sentence(3, "Returns the previous length of the text.", this::previousLengths);
        check.sentence(4, "Returns the error position of the text; NONE if it is a road.", this::wholeRoads);
        check.sentence(0, "A road is the letter R, two digits for S (01 to 10), S digits for the surfaces (0 to 2), and "
            + "then any number of parts, in any order:", this::sizesAndSurfaces);
        check.sentence(0, "the letter h, the digit of a segment and the digit of a distance, at most 8 of them;",
            this::housesInText);
        check.sentence(0, "the letter w and the digit of a segment, at most 3 of them;", this::wagonsInText);
        check.sentence(0, "the letter f and the digit of a segment: it is a filling place (each at most once; if there "
            + "is any f, the segment 0 is one only if it is told).", this::fillingPlacesInText);
        check.sentence(0, "There are no blanks.", this::blanks);
        check.sentence(0, "The text is read from left to right.", this::leftToRight);
        check.sentence(0, "The error position is the index of the first character that these rules do not allow at its "
            + "place", this::eachSignAtEachPlace);
        check.sentence(0, "(a digit is not allowed if no number that is allowed begins with it and those before it;",
            this::digits);
        check.sentence(0, "an f is not allowed if all segments were told as filling places,", this::noMoreFillingPlaces);
        check.sentence(0, "an h behind the eighth house,", this::noMoreHouses);
        check.sentence(0, "a w behind the third wagon);", this::noMoreWagons);
        check.sentence(0, "if the text ends too soon, it is the length of the text.", this::endsTooSoon);
        check.sentence(5, "Returns the number of segments.", this::loadedSegments);
        check.sentence(5, "Throws IllegalStateException if the text is not a road", this::noRoad);
        check.sentence(5, "Makes everything as in a new object, and then as the text tells.", this::loadedAsNew);
        check.sentence(5, "Forgets all remembered states and empties both save slots.", this::loadForgets);
        check.sentence(5, "Keeps the text.", this::loadKeepsTheText);
    }

    // ---- a new object and its road

    private void manyCalls() {
        RoadDust x = Check.loaded("R010h00");
        x.set(5, 20);
        for (int k = 0; k < 500; k++) {
            x.pass(50);
        }
        // 7 signs, load and set were 9 calls; these are the 510th to the 512th.
        check.due("the day after 25000 hours", 2500, () -> x.about(3));
        check.due("all complaints", 25000, () -> x.about(10));
        // The limit has long been 1: 60 come to the 180 that lie, and three quarters of 240 lie again.
        check.due("what the house got at last", 240, () -> x.house(0, 4));
    }

    private void none() {
        check.due("NONE", -9, () -> RoadDust.NONE);
    }

    private void segments() {
        RoadDust x = new RoadDust();
        check.due("a new object's S", 4, () -> x.about(0));
        bounds("a new road", x, 4);
        bounds("the smallest road", Check.loaded("R012"), 1);
        bounds("the greatest road", Check.loaded("R100000000002"), 10);
        check.due("no road has no segment", 2, () -> Check.errorIn("R00"));
        check.due("no road has 11 segments", 2, () -> Check.errorIn("R1100000000000"));
    }

    private void bounds(String road, RoadDust x, int segments) {
        check.due(road + ": S", segments, () -> x.about(0));
        check.due(road + ": its first segment", 3, () -> x.segment(0, 1));
        check.due(road + ": its last segment", 3, () -> x.segment(segments - 1, 1));
        check.throwing(road + ": the segment -1", Check.INDEX, () -> x.segment(-1, 1));
        check.throwing(road + ": the segment " + segments, Check.INDEX, () -> x.segment(segments, 1));
    }

    private void eachSurface() {
        RoadDust x = new RoadDust();
        check.due("at first", 0, () -> x.segment(3, 0));
        RoadDust y = Check.loaded("R03012");
        y.pass(1);
        // 90, 60 and 30 come, and three quarters lie.
        int[] dust = {67, 45, 22};
        for (int s = 0; s < 3; s++) {
            int t = s;
            check.due("the surface " + t, t, () -> y.segment(t, 0));
            check.due("the dust on the surface " + t, dust[t], () -> y.segment(t, 3));
        }
        check.throwing("below gravel", Check.ARGUMENT, () -> y.setSurface(0, -1));
        check.throwing("above paved", Check.ARGUMENT, () -> y.setSurface(0, 3));
        check.due("no surface 3 in a text", 3, () -> Check.errorIn("R013"));
    }

    private void firstSegments() {
        RoadDust x = new RoadDust();
        int[] first = {0, 3, 0, 0, 0};
        for (int s = 0; s < 4; s++) {
            for (int what = 0; what < first.length; what++) {
                int t = s;
                int k = what;
                check.due("segment " + t + ", " + k, first[k], () -> x.segment(t, k));
            }
        }
    }

    private void firstFillingPlace() {
        RoadDust x = new RoadDust();
        for (int s = 0; s < 4; s++) {
            int t = s;
            check.due("filling place " + t, t == 0 ? 1 : 0, () -> x.segment(t, 5));
        }
    }

    private void firstNumbers() {
        RoadDust x = new RoadDust();
        check.due("lorries at first", 10, () -> x.about(5));
        check.due("sun at first", 5, () -> x.about(6));
        int[] most = {20, 9};
        for (int k = 0; k < most.length; k++) {
            int what = 5 + k;
            int high = most[k];
            check.due("the most of " + what, what == 5 ? 10 : 5, () -> x.set(what, high));
            check.throwing("more of " + what, Check.ARGUMENT, () -> x.set(what, high + 1));
            check.due("none of " + what, high, () -> x.set(what, 0));
            check.throwing("less of " + what, Check.ARGUMENT, () -> x.set(what, -1));
        }
    }

    private void newObject() {
        RoadDust x = new RoadDust();
        check.due("segments", 4, () -> x.about(0));
        check.due("houses", 0, () -> x.about(1));
        check.due("wagons", 0, () -> x.about(2));
        check.throwing("house 0", Check.INDEX, () -> x.house(0, 0));
        check.throwing("wagon 0", Check.INDEX, () -> x.wagon(0, 0));
        check.due("text", 0, x::clearText);
        check.throwing("remembered states", Check.STATE, x::undo);
        check.throwing("slot 0", Check.STATE, () -> x.restore(0));
        check.throwing("slot 1", Check.STATE, () -> x.restore(1));
    }

    // ---- append, clearText

    private void codes() {
        RoadDust x = new RoadDust();
        for (int c = 0; c < 256; c++) {
            int code = c;
            if (c % 64 == 0) {
                x.clearText();
            }
            check.due("append(" + code + ")", code % 64 + 1, () -> x.append(code));
        }
    }

    private void newLengths() {
        RoadDust x = new RoadDust();
        for (int k = 1; k <= 70; k++) {
            check.due("the " + k + "th character", k, () -> x.append('h'));
        }
        x.clearText();
        check.due("the first one after clearText", 1, () -> x.append('h'));
    }

    private void codesOutOfRange() {
        RoadDust x = new RoadDust();
        for (int c : WILD) {
            check.throwing("append(" + c + ")", Check.ARGUMENT, () -> x.append(c));
        }
        check.due("nothing was appended", 0, x::clearText);
    }

    private void fullText() {
        RoadDust x = new RoadDust();
        Check.type(x, "x".repeat(69));
        check.due("the 70th", 70, () -> x.append(255));
        check.throwing("the 71st", Check.STATE, () -> x.append(0));
        check.throwing("the 71st, tried again", Check.STATE, () -> x.append('R'));
        check.due("the text has 70 characters still", 70, x::clearText);
        check.due("and then there is room", 1, () -> x.append('R'));
    }

    private void roomForText() {
        RoadDust x = new RoadDust();
        Check.type(x, FULLEST);
        check.due("the longest road is a road", RoadDust.NONE, x::errorPosition);
        for (int k = 64; k <= 70; k++) {
            int length = k;
            check.due("one character more", length, () -> x.append('h'));
            check.due("which no road has", 63, x::errorPosition);
        }
        check.throwing("there is no more room", Check.STATE, () -> x.append('h'));
        check.due("the error is where it was", 63, x::errorPosition);
    }

    private void emptied() {
        RoadDust x = new RoadDust();
        Check.type(x, "R0111");
        x.clearText();
        check.due("an empty text", 0, x::errorPosition);
        check.throwing("load of an empty text", Check.STATE, x::load);
        Check.type(x, "R010");
        check.due("nothing of the old text is left", RoadDust.NONE, x::errorPosition);
        check.due("nothing of the old text is loaded", 1, x::load);
        check.due("its surface", 0, () -> x.segment(0, 0));
    }

    private void previousLengths() {
        RoadDust x = new RoadDust();
        check.due("an empty text", 0, x::clearText);
        check.due("an empty text again", 0, x::clearText);
        x.append(0);
        check.due("a text of one character", 1, x::clearText);
        check.due("after it", 0, x::clearText);
        Check.type(x, "f".repeat(70));
        check.due("a full text", 70, x::clearText);
        check.due("after the full text", 0, x::clearText);
    }

    // ---- errorPosition

    private void error(String text, int want) {
        check.due("errorPosition of '" + text + "'", want, () -> Check.errorIn(text));
    }

    private void wholeRoads() {
        error("", 0);
        error("R010", RoadDust.NONE);
        error("R012h09w0f0", RoadDust.NONE);
        error("R10" + "0".repeat(10), RoadDust.NONE);
        error(FULLEST, RoadDust.NONE);
        error(FULLEST.substring(0, 62), 62);
    }

    private void sizesAndSurfaces() {
        for (int size = 0; size <= 99; size++) {
            String start = "R" + size / 10 + size % 10;
            if (size >= 1 && size <= 10) {
                error(start + "2".repeat(size), RoadDust.NONE);
                error(start + "0".repeat(size - 1), 2 + size);
                error(start + "0".repeat(size + 1), 3 + size);
                error(start + "0".repeat(size - 1) + "3", 2 + size);
                error(start + "3" + "0".repeat(size - 1), 3);
                String last = "" + (size - 1);
                error(start + "1".repeat(size) + "w" + last + "f" + last + "h" + last + "9", RoadDust.NONE);
            } else {
                error(start + "0".repeat(10), size < 20 ? 2 : 1);
            }
        }
        error("r010", 0);
        error("010", 0);
        error("R1", 2);
        error("R10", 3);
        for (String parts : new String[] {"h09w0f0", "h09f0w0", "w0h09f0", "w0f0h09", "f0h09w0", "f0w0h09"}) {
            error("R011" + parts, RoadDust.NONE);
        }
    }

    private void housesInText() {
        error("R0200h00", RoadDust.NONE);
        error("R0200h19", RoadDust.NONE);
        error("R0200h20", 6);
        error("R0200h1", 7);
        error("R0200h1w0", 7);
        error("R0200h190", 8);
        error("R0200" + "h19".repeat(7), RoadDust.NONE);
        error("R0200" + "h19".repeat(8), RoadDust.NONE);
        error("R0200" + "h19".repeat(9), 29);
        error("R0200H00", 5);
    }

    private void wagonsInText() {
        error("R0200w0", RoadDust.NONE);
        error("R0200w1", RoadDust.NONE);
        error("R0200w2", 6);
        error("R0200w", 6);
        error("R0200w10", 7);
        error("R0200w1w1", RoadDust.NONE);
        error("R0200w1w1w1", RoadDust.NONE);
        error("R0200w1w1w1w1", 11);
        error("R0200W1", 5);
    }

    private void fillingPlacesInText() {
        error("R0200f0", RoadDust.NONE);
        error("R0200f1", RoadDust.NONE);
        error("R0200f2", 6);
        error("R0200f", 6);
        error("R0200f11", 7);
        error("R0200f1f1", 8);
        error("R0200f0w1f0", 10);
        error("R0200f0f1", RoadDust.NONE);
        error("R03000f0f1f0", 11);
        error("R0200F0", 5);
        filling("R03000", 1, 0, 0);
        filling("R03000h00w2", 1, 0, 0);
        filling("R03000f2", 0, 0, 1);
        filling("R03000f1f2", 0, 1, 1);
        filling("R03000f1f0", 1, 1, 0);
        filling("R03000f0", 1, 0, 0);
        filling("R03000f2f1f0", 1, 1, 1);
        check.due("the last of ten", 1, () -> Check.loaded("R100000000000f9").segment(9, 5));
        check.due("and not the first", 0, () -> Check.loaded("R100000000000f9").segment(0, 5));
    }

    private void filling(String text, int... want) {
        RoadDust x = Check.loaded(text);
        for (int s = 0; s < want.length; s++) {
            int t = s;
            check.due(text + ": filling place " + t, want[t], () -> x.segment(t, 5));
        }
    }

    private void blanks() {
        String road = "R0201h10w1f0";
        error(road, RoadDust.NONE);
        for (int k = 0; k <= road.length(); k++) {
            error(road.substring(0, k) + " " + road.substring(k), k);
        }
    }

    private void leftToRight() {
        error("xR3", 0);
        error("R0233h", 3);
        error("R0203h29", 4);
        error("R0200h20w2f2", 6);
        error("R0200h10w2f2", 9);
        error("R0200w1w1w1w9h99", 11);
        error("R0200f1f1w9", 8);
    }

    /** With which characters a text may go on. */
    private void allowed(String text, String signs) {
        for (int c = 0; c < 256; c++) {
            int code = c;
            RoadDust x = new RoadDust();
            Check.type(x, text);
            x.append(code);
            if (signs.indexOf((char) code) < 0) {
                check.due("behind '" + text + "' the character " + code, text.length(), x::errorPosition);
            } else {
                check.that("behind '" + text + "' the character " + code + " is allowed",
                    x.errorPosition() != text.length());
            }
        }
    }

    private void eachSignAtEachPlace() {
        allowed("", "R");
        allowed("R", "01");
        allowed("R0", "123456789");
        allowed("R1", "0");
        allowed("R02", "012");
        allowed("R020", "012");
        allowed("R0202", "hwf");
        allowed("R0202h", "01");
        allowed("R0202h1", "0123456789");
        allowed("R0202h19", "hwf");
        allowed("R0202w", "01");
        allowed("R0202w1", "hwf");
        allowed("R0202f", "01");
        allowed("R0202f1", "hwf");
        allowed("R0202f1f", "0");
        allowed("R0202f1f0", "hw");
        allowed("R0202w0w0w0", "hf");
        allowed("R0202" + "h00".repeat(8), "wf");
        allowed("R0202f1f0w0w0w0" + "h00".repeat(8), "");
        allowed("R100000000000f0f1f2f3f4f5f6f7f9f", "8");
        allowed("R100000000000w", "0123456789");
        allowed(FULLEST, "");
    }

    private void digits() {
        error("R2", 1);
        error("R9", 1);
        error("R00", 2);
        error("R11", 2);
        error("R09222222222h88w8f8", RoadDust.NONE);
        error("R09222222222h9", 13);
        error("R09222222222w9", 13);
        error("R09222222222f9", 13);
        error("R010h1", 5);
        error("R010w1", 5);
        error("R010f1", 5);
        error("R010h0:", 6);
        error("R010h0/", 6);
        error("R01/", 3);
        error("R01:", 3);
        error("R/", 1);
        error("R0:", 2);
    }

    private void noMoreFillingPlaces() {
        error("R010f0", RoadDust.NONE);
        error("R010f0f", 6);
        error("R010f0w0f", 8);
        error("R0200f1f", 8);
        error("R0200f1f0", RoadDust.NONE);
        error("R0200f1f0f", 9);
        String nine = "R100000000000f9f8f7f6f5f4f3f2f1";
        error(nine + "f", 32);
        error(nine + "f0", RoadDust.NONE);
        error(nine + "f0f", 33);
    }

    private void noMoreHouses() {
        String seven = "R010" + "h05".repeat(7);
        error(seven + "h", 26);
        error(seven + "h0", 27);
        error(seven + "h05", RoadDust.NONE);
        error(seven + "h05h", 28);
        error(seven + "w0f0h05", RoadDust.NONE);
        error(seven + "w0f0h05w0h05", 34);
    }

    private void noMoreWagons() {
        error("R010w0w0w", 9);
        error("R010w0w0w0", RoadDust.NONE);
        error("R010w0w0w0w", 10);
        error("R010w0h00w0f0w0", RoadDust.NONE);
        error("R010w0h00w0f0w0h00w", 18);
    }

    private void endsTooSoon() {
        String road = "R0212h19w1f0";
        int[] wants = {0, 1, 2, 3, 4, RoadDust.NONE, 6, 7, RoadDust.NONE, 9, RoadDust.NONE, 11, RoadDust.NONE};
        for (int k = 0; k <= road.length(); k++) {
            error(road.substring(0, k), wants[k]);
        }
        String great = "R10" + "1".repeat(10);
        for (int k = 0; k < great.length(); k++) {
            error(great.substring(0, k), k);
        }
    }

    // ---- load

    private void loadedSegments() {
        for (int size = 1; size <= 10; size++) {
            RoadDust x = new RoadDust();
            Check.type(x, "R" + size / 10 + size % 10 + "0".repeat(size));
            check.due("load of " + size, size, x::load);
        }
    }

    private void noRoad() {
        String[] texts = {
            "", "R", "R0", "R01", "R00", "R11", "R0100", "R013", "R020", "R010h", "R010h0", "R010h000", "R010w", "R010w00",
            "R010f", "R010f0f0", "R010h10", "R010w1", "R010f1", "R010w0w0w0w0", "R010" + "h00".repeat(9), " R010", "R010 ",
            FULLEST + "h00"};
        for (String text : texts) {
            RoadDust x = new RoadDust();
            Check.type(x, text);
            check.throwing("load of '" + text + "'", Check.STATE, x::load);
        }
        check.due("load of the fullest road", 10, () -> {
            RoadDust x = new RoadDust();
            Check.type(x, FULLEST);
            return x.load();
        });
    }

    private void loadedAsNew() {
        RoadDust x = Check.loaded(FULLEST);
        x.set(5, 20);
        x.set(6, 9);
        x.set(7, 1);
        x.set(8, 99);
        x.spray(1, 9);
        x.fill(1);
        x.setSurface(0, 2);
        x.setLimit(9, 5);
        x.pass(37);
        x.clearText();
        Check.type(x, "R0200");
        check.due("load of a bare road", 2, x::load);
        int[] numbers = {2, 0, 0, 0, 0, 10, 5, 50, 40, 0, 0, 0, 0};
        for (int what = 0; what < numbers.length; what++) {
            int k = what;
            check.due("about " + k, numbers[k], () -> x.about(k));
        }
        int[] segment = {0, 3, 0, 0, 0, 1, 0};
        for (int what = 0; what < segment.length; what++) {
            int k = what;
            check.due("segment 0, " + k, segment[k], () -> x.segment(0, k));
            check.due("segment 1, " + k, k == 5 ? 0 : segment[k], () -> x.segment(1, k));
        }
        check.throwing("no segment of the old road", Check.INDEX, () -> x.segment(2, 0));
        check.throwing("no house of the old road", Check.INDEX, () -> x.house(0, 0));
        check.throwing("no wagon of the old road", Check.INDEX, () -> x.wagon(0, 0));
        check.due("a new first house", 0, () -> x.addHouse(1, 9));
        check.due("its sum", 0, () -> x.house(0, 2));
        check.due("its complaints", 0, () -> x.house(0, 3));
        check.due("what it got", 0, () -> x.house(0, 4));
        check.due("a new first wagon", 0, () -> x.addWagon(1));
        check.due("its liters", 20, () -> x.wagon(0, 1));
        loadedAfterTrials(y -> y.simulate(9L, 99));
        loadedAfterTrials(y -> y.runScript(4, 3009400090991050L));
        loadedAfterTrials(y -> y.ahead(7, 20));
        loadedAfterTrials(y -> y.complainsIn(7));
        loadedAfterTrials(y -> y.bestSpray(1, 9));
        loadedAfterTrials(RoadDust::dustiest);
        loadedAfterTrials(RoadDust::errorPosition);
    }

    /** What was only tried out before a load is nowhere to be seen after it. */
    private void loadedAfterTrials(ToIntFunction<RoadDust> trial) {
        String text = "R0501201h49h00h31w3w1f2";
        RoadDust x = Check.loaded(FULLEST);
        x.set(7, 1);
        x.spray(1, 9);
        x.pass(17);
        x.fill(1);
        trial.applyAsInt(x);
        x.clearText();
        Check.type(x, text);
        trial.applyAsInt(x);
        check.due("load behind a trial", 5, x::load);
        check.that("a trial is seen after a load", Check.seen(Check.loaded(text)).equals(Check.seen(x)));
    }

    private void loadForgets() {
        for (int actions : new int[] {1, 14, 15}) {
            RoadDust x = Check.loaded("R010");
            for (int k = 0; k < actions; k++) {
                x.pass(1);
            }
            x.save(0);
            x.save(1);
            x.load();
            check.throwing("undo after a load, " + actions + " actions", Check.STATE, x::undo);
            check.throwing("slot 0 after a load", Check.STATE, () -> x.restore(0));
            check.throwing("slot 1 after a load", Check.STATE, () -> x.restore(1));
            check.due("the hour after a load", 0, () -> x.about(4));
            x.pass(2);
            check.due("save after a load", 2, () -> x.save(1));
            check.due("the first action after a load", 0, x::undo);
            check.throwing("no action before it", Check.STATE, x::undo);
            check.throwing("slot 0 is empty still", Check.STATE, () -> x.restore(0));
            check.due("slot 1 is not", 2, () -> x.restore(1));
        }
    }

    private void loadKeepsTheText() {
        RoadDust x = Check.loaded("R0201");
        check.due("it is a road still", RoadDust.NONE, x::errorPosition);
        check.due("it is loaded again", 2, x::load);
        check.due("it goes on", 6, () -> x.append('w'));
        check.throwing("a part that ends too soon", Check.STATE, x::load);
        check.due("where it ends", 6, x::errorPosition);
        check.due("it goes on after a refused load", 7, () -> x.append('1'));
        check.due("load of more", 2, x::load);
        check.due("the wagon", 1, () -> x.wagon(0, 0));
        check.due("its length", 7, x::clearText);
    }
}
