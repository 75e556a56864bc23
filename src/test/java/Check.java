/** What the tests share: comparing answers and exceptions with those that are due, and counting what is wrong. */
final class Check {
    interface Call {
        long answer();
    }

    static final Class<IndexOutOfBoundsException> INDEX = IndexOutOfBoundsException.class;
    static final Class<IllegalArgumentException> ARGUMENT = IllegalArgumentException.class;
    static final Class<IllegalStateException> STATE = IllegalStateException.class;

    private int wrong;

    void due(String what, long want, Call call) {
        long got;
        try {
            got = call.answer();
        } catch (RuntimeException e) {
            report(what + " threw " + e + ", due is " + want);
            return;
        }
        if (got != want) {
            report(what + " answered " + got + ", due is " + want);
        }
    }

    void throwing(String what, Class<? extends RuntimeException> want, Call call) {
        long got;
        try {
            got = call.answer();
        } catch (RuntimeException e) {
            // A class below the one that is due would be the machine's own exception.
            if (e.getClass() != want) {
                report(what + " threw " + e + ", due is " + want.getName());
            }
            return;
        }
        report(what + " answered " + got + ", due is " + want.getName());
    }

    void that(String what, boolean holds) {
        if (!holds) {
            report(what);
        }
    }

    /** Ends the test's program, with the exit code 1 if anything was wrong. */
    void end() {
        System.out.println(wrong == 0 ? "all as due" : wrong + " wrong");
        if (wrong != 0) {
            System.exit(1);
        }
    }

    private void report(String line) {
        wrong++;
        System.out.println(line);
    }

    static void type(RoadDust x, String text) {
        for (int k = 0; k < text.length(); k++) {
            x.append(text.charAt(k));
        }
    }

    static int errorIn(String text) {
        RoadDust x = new RoadDust();
        type(x, text);
        return x.errorPosition();
    }

    static RoadDust loaded(String text) {
        RoadDust x = new RoadDust();
        type(x, text);
        x.load();
        return x;
    }

    /** Everything that the document lets one see of the state, in one line. */
    static String seen(RoadDust x) {
        StringBuilder line = new StringBuilder();
        for (int what = 0; what <= 12; what++) {
            line.append(x.about(what)).append(' ');
        }
        for (int s = 0; s < x.about(0); s++) {
            for (int what = 0; what <= 6; what++) {
                line.append(x.segment(s, what)).append(' ');
            }
        }
        for (int i = 0; i < x.about(1); i++) {
            for (int what = 0; what <= 4; what++) {
                line.append(x.house(i, what)).append(' ');
            }
        }
        for (int w = 0; w < x.about(2); w++) {
            for (int what = 0; what <= 2; what++) {
                line.append(x.wagon(w, what)).append(' ');
            }
        }
        return line.toString();
    }
}
