/** What the tests share: comparing answers and exceptions with those that are due, and counting what is wrong. */
final class Check {
    interface Call {
        long answer();
    }

    static final Class<IndexOutOfBoundsException> INDEX = IndexOutOfBoundsException.class;
    static final Class<IllegalArgumentException> ARGUMENT = IllegalArgumentException.class;
    static final Class<IllegalStateException> STATE = IllegalStateException.class;

    private int wrong;
    private int made;
    /** The sentence that is being tested, as the reports begin with it. */
    private String place = "";

    /**
     * Runs the test of one sentence of the document, in the words in which the document says it: of the promise of
     * this number, or of what stands before the promises, if it is 0. What is wrong is told with the promise and the
     * words.
     */
    void sentence(int promise, String words, Runnable test) {
        place = Document.heading(promise) + ", \"" + words + "\": ";
        that("the document does not say this there", Document.quoted(promise, words));
        int before = made;
        try {
            test.run();
        } catch (RuntimeException e) {
            report("the test ended by " + e);
        }
        that("nothing was tested", made > before);
        place = "";
    }

    void due(String what, long want, Call call) {
        made++;
        long got;
        try {
            got = call.answer();
        } catch (RuntimeException e) {
            report(what + " threw " + e + ", due is " + want);
            return;
        }
        if (got != want) {
            report(what + " answered " + got + ", due is " + want);
        }
    }

    void throwing(String what, Class<? extends RuntimeException> want, Call call) {
        made++;
        long got;
        try {
            got = call.answer();
        } catch (RuntimeException e) {
            // A class below the one that is due, or one that the library threw, would be the machine's own exception.
            if (e.getClass() != want || !e.getStackTrace()[0].getClassName().startsWith("RoadDust")) {
                report(what + " threw " + e + ", due is " + want.getName());
            }
            return;
        }
        report(what + " answered " + got + ", due is " + want.getName());
    }

    void that(String what, boolean holds) {
        made++;
        if (!holds) {
            report(what);
        }
    }

    /** Ends the test's program, with the exit code 1 if anything was wrong. */
    void end() {
        System.out.println(wrong == 0 ? "all as due" : wrong + " wrong");
        if (wrong != 0) {
            System.exit(1);
        }
    }

    private void report(String line) {
        wrong++;
        System.out.println(place + line);
    }

    static void type(RoadDust x, String text) {
        for (int k = 0; k < text.length(); k++) {
            x.append(text.charAt(k));
        }
    }

    static int errorIn(String text) {
        RoadDust x = new RoadDust();
        type(x, text);
        return x.errorPosition();
    }

    static RoadDust loaded(String text) {
        RoadDust x = new RoadDust();
        type(x, text);
        x.load();
        return x;
    }

    /** Everything that the document lets one see of the state, in one line; it takes some 20 to 150 calls. */
    static String seen(RoadDust x) {
        StringBuilder line = new StringBuilder();
        int segments = x.about(0);
        int houses = x.about(1);
        int wagons = x.about(2);
        for (int what = 0; what <= 12; what++) {
            line.append(x.about(what)).append(' ');
        }
        for (int s = 0; s < segments; s++) {
            for (int what = 0; what <= 6; what++) {
                line.append(x.segment(s, what)).append(' ');
            }
        }
        for (int i = 0; i < houses; i++) {
            for (int what = 0; what <= 4; what++) {
                line.append(x.house(i, what)).append(' ');
            }
        }
        for (int w = 0; w < wagons; w++) {
            for (int what = 0; what <= 2; what++) {
                line.append(x.wagon(w, what)).append(' ');
            }
        }
        return line.toString();
    }
}
