import java.util.Random;

/** All promises: long runs of calls, most of them sensible and some wild, answered as the model answers them. */
public final class ModelTest {
    private static final int RUNS = 400;
    private static final int CALLS = 512;
    private static final String[] NAMES = {
        "append", "clearText", "errorPosition", "load", "about", "segment", "house", "wagon", "addHouse", "addWagon",
        "setSurface", "setLimit", "set", "drive", "spray", "fill", "pass", "undo", "whyNoFill", "ahead", "waterFor",
        "limitFor", "bestSpray", "complainsIn", "dustiest", "runScript", "simulate", "save", "restore"};
    /** How often each of the names is called. */
    private static final int[] WEIGHTS = {
        4, 1, 2, 1, 8, 12, 10, 6, 6, 4,
        6, 8, 10, 12, 12, 8, 14, 8, 6, 6, 8,
        8, 10, 6, 6, 16, 4, 3, 2};
    private static final long[] WILD = {
        -1, -9, 10, 11, 100, 256, Integer.MIN_VALUE, Integer.MAX_VALUE, Integer.MIN_VALUE + 1};

    private final Random random;
    private final RoadDust real = new RoadDust();
    private final Model model = new Model();
    private final int run;
    private int wrong;

    private ModelTest(int run) {
        this.run = run;
        random = new Random(run);
    }

    public static void main(String[] args) {
        int wrong = 0;
        for (int run = 0; run < RUNS; run++) {
            wrong += new ModelTest(run).play();
        }
        System.out.println(wrong == 0 ? "all as due" : wrong + " runs wrong");
        if (wrong != 0) {
            System.exit(1);
        }
    }

    private int play() {
        int calls = 0;
        if (random.nextInt(4) > 0) {
            String text = road();
            for (int k = 0; k < text.length(); k++) {
                same("append", text.charAt(k), 0);
            }
            same("errorPosition", 0, 0);
            same("load", 0, 0);
            calls = text.length() + 2;
        }
        while (calls < CALLS && wrong == 0) {
            String name = someName();
            if (name.equals("clearText") && calls < CALLS - 80) {
                calls += newText();
            }
            same(name, first(name), second(name));
            calls++;
        }
        return wrong == 0 ? 0 : 1;
    }

    private int newText() {
        same("clearText", 0, 0);
        String text = spoilt(road());
        for (int k = 0; k < text.length(); k++) {
            same("append", text.charAt(k), 0);
        }
        same("errorPosition", 0, 0);
        if (random.nextInt(3) == 0) {
            same("load", 0, 0);
        }
        return text.length() + 3;
    }

    private String road() {
        int size = 1 + random.nextInt(10);
        StringBuilder text = new StringBuilder("R");
        text.append(size / 10).append(size % 10);
        for (int s = 0; s < size; s++) {
            text.append(random.nextInt(3));
        }
        int parts = random.nextInt(16);
        for (int k = 0; k < parts && text.length() < 68; k++) {
            char kind = "hhhwwff".charAt(random.nextInt(7));
            text.append(kind).append(random.nextInt(size));
            if (kind == 'h') {
                text.append(random.nextInt(3) == 0 ? random.nextInt(10) : random.nextInt(2));
            }
        }
        return text.toString();
    }

    private String spoilt(String road) {
        StringBuilder text = new StringBuilder(road);
        int k = random.nextInt(text.length());
        switch (random.nextInt(5)) {
            case 0: text.setCharAt(k, "Rhwf0129 :/".charAt(random.nextInt(11))); break;
            case 1: text.deleteCharAt(k); break;
            case 2: text.setLength(k); break;
            case 3: text.insert(k, "Rhwf0129 :/".charAt(random.nextInt(11))); break;
            default: break;
        }
        text.setLength(Math.min(70, text.length()));
        return text.toString();
    }

    private String someName() {
        int sum = 0;
        for (int weight : WEIGHTS) {
            sum += weight;
        }
        int k = random.nextInt(sum);
        int at = 0;
        while (k >= WEIGHTS[at]) {
            k -= WEIGHTS[at];
            at++;
        }
        return NAMES[at];
    }

    private long upTo(int most) {
        return random.nextInt(most + 1);
    }

    private long wild() {
        return WILD[random.nextInt(WILD.length)];
    }

    private long first(String name) {
        if (random.nextInt(30) == 0 && !name.equals("simulate")) {
            return wild();
        }
        switch (name) {
            case "append": return random.nextInt(8) == 0 ? upTo(256) : "Rhwf0129".charAt(random.nextInt(8));
            case "about": return upTo(13);
            case "set": return 5 + upTo(3);
            case "pass": return random.nextInt(4) == 0 ? upTo(51) : 1 + upTo(2);
            case "runScript": return 1 + upTo(3);
            case "simulate": return random.nextLong();
            case "save": case "restore": return upTo(1);
            case "house": case "ahead": case "waterFor": case "limitFor": case "complainsIn": return existing(1);
            case "wagon": case "drive": case "spray": case "fill": case "whyNoFill": case "bestSpray": return existing(2);
            default: return existing(0);
        }
    }

    /** Mostly the number of something that exists. */
    private long existing(int count) {
        // Asked of the model, so that the object is not used for more than its 512 calls.
        int most = (int) model.play("about", count, 0);
        return random.nextInt(12) == 0 || most == 0 ? upTo(most) : upTo(most - 1);
    }

    private long second(String name) {
        if (random.nextInt(30) == 0) {
            return wild();
        }
        switch (name) {
            case "segment": return upTo(7);
            case "house": return upTo(5);
            case "wagon": return upTo(3);
            case "addHouse": return upTo(10);
            case "setSurface": return upTo(3);
            case "setLimit": return upTo(6);
            case "set": return random.nextInt(3) == 0 ? upTo(210) : upTo(20);
            case "drive": return existing(0);
            case "spray": case "bestSpray": return upTo(10);
            case "ahead": return upTo(21);
            case "simulate": return upTo(100);
            case "runScript": return script();
            default: return 0;
        }
    }

    private long script() {
        long script = 0;
        int groups = 1 + random.nextInt(4);
        for (int k = 0; k < groups; k++) {
            script = script * 10000 + command();
        }
        switch (random.nextInt(12)) {
            case 0: return script * 10;
            case 1: return random.nextLong();
            default: return script;
        }
    }

    private long command() {
        if (random.nextInt(20) == 0) {
            return upTo(9999);
        }
        long d1 = 1 + upTo(8);
        long d2 = d1 == 1 || d1 == 7 ? 0 : existing(d1 == 8 ? 1 : d1 <= 4 ? 2 : 0);
        long rest;
        if (d1 == 1 || d1 == 7) {
            rest = upTo(22);
        } else if (d1 == 8 || d1 == 9) {
            rest = upTo(99);
        } else if (d1 == 4) {
            rest = 0;
        } else {
            rest = upTo(d1 == 2 || d1 == 3 ? 9 : 5);
        }
        return d1 * 1000 + d2 % 10 * 100 + rest;
    }

    private void same(String name, long a, long b) {
        long got = answer(name, a, b);
        long want = model.play(name, name.equals("simulate") ? a : (int) a, name.equals("runScript") ? b : (int) b);
        if (got != want) {
            wrong++;
            System.out.println("run " + run + ": " + name + "(" + a + ", " + b + ") gave " + got + ", due is " + want);
        }
    }

    private long answer(String name, long a, long b) {
        try {
            return call(name, a, b);
        } catch (RuntimeException e) {
            if (e.getClass() == IndexOutOfBoundsException.class) {
                return Model.INDEX;
            } else if (e.getClass() == IllegalArgumentException.class) {
                return Model.ARGUMENT;
            } else if (e.getClass() == IllegalStateException.class) {
                return Model.STATE;
            }
            throw e;
        }
    }

    private long call(String name, long first, long second) {
        int a = (int) first;
        int b = (int) second;
        switch (name) {
            case "append": return real.append(a);
            case "clearText": return real.clearText();
            case "errorPosition": return real.errorPosition();
            case "load": return real.load();
            case "about": return real.about(a);
            case "segment": return real.segment(a, b);
            case "house": return real.house(a, b);
            case "wagon": return real.wagon(a, b);
            case "addHouse": return real.addHouse(a, b);
            case "addWagon": return real.addWagon(a);
            case "setSurface": return real.setSurface(a, b);
            case "setLimit": return real.setLimit(a, b);
            case "set": return real.set(a, b);
            case "drive": return real.drive(a, b);
            case "spray": return real.spray(a, b);
            case "fill": return real.fill(a);
            case "pass": return real.pass(a);
            case "undo": return real.undo();
            case "whyNoFill": return real.whyNoFill(a);
            case "ahead": return real.ahead(a, b);
            case "waterFor": return real.waterFor(a);
            case "limitFor": return real.limitFor(a);
            case "bestSpray": return real.bestSpray(a, b);
            case "complainsIn": return real.complainsIn(a);
            case "dustiest": return real.dustiest();
            case "runScript": return real.runScript(a, second);
            case "simulate": return real.simulate(first, b);
            case "save": return real.save(a);
            case "restore": return real.restore(a);
            default: throw new UnsupportedOperationException(name);
        }
    }
}
