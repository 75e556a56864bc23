import java.util.ArrayList;
import java.util.List;
import java.util.regex.Matcher;
import java.util.regex.Pattern;

/**
 * The document once more, written in another way: a state is a table of numbers in the order in which about, segment,
 * house and wagon tell them, every what-if is a clone of it, and the text is read by patterns.
 */
final class Model {
    static final long INDEX = Long.MIN_VALUE;
    static final long ARGUMENT = Long.MIN_VALUE + 1;
    static final long STATE = Long.MIN_VALUE + 2;

    private static final int NONE = -9;
    private static final int SEGMENT = 1;
    private static final int HOUSE = 11;
    private static final int WAGON = 19;

    private StringBuilder text = new StringBuilder();
    private int[][] now = first();
    private final List<int[][]> past = new ArrayList<>();
    private final int[][][] slots = new int[2][][];

    private static int[][] first() {
        int[][] t = new int[22][];
        t[0] = new int[] {4, 0, 0, 0, 0, 10, 5, 50, 40, 0, 0, 0, 0};
        for (int k = SEGMENT; k < HOUSE; k++) {
            t[k] = new int[] {0, 3, 0, 0, 0, k == SEGMENT ? 1 : 0, 0};
        }
        for (int k = HOUSE; k < WAGON; k++) {
            t[k] = new int[5];
        }
        for (int k = WAGON; k < 22; k++) {
            t[k] = new int[3];
        }
        return t;
    }

    private static int[][] copy(int[][] t) {
        int[][] c = new int[t.length][];
        for (int k = 0; k < t.length; k++) {
            c[k] = t[k].clone();
        }
        return c;
    }

    private static boolean in(long v, long least, long most) {
        return least <= v && v <= most;
    }

    // ---- text

    private static boolean begins(String text) {
        for (int size = 1; size <= 10; size++) {
            if (begins(text, size)) {
                return true;
            }
        }
        return false;
    }

    private static boolean begins(String text, int size) {
        String one = "[0-" + (size - 1) + "]";
        Matcher m = pattern(size, one).matcher(text);
        if (!m.matches() && !m.hitEnd()) {
            return false;
        }
        long h = text.chars().filter(c -> c == 'h').count();
        long w = text.chars().filter(c -> c == 'w').count();
        long f = text.chars().filter(c -> c == 'f').count();
        return h <= 8 && w <= 3 && f <= size && !text.matches("(?s).*f(\\d).*f\\1.*");
    }

    private static Pattern pattern(int size, String one) {
        return Pattern.compile("R" + (size < 10 ? "0" : "") + size + "[0-2]{" + size + "}(h" + one + "[0-9]|[wf]" + one + ")*");
    }

    private static boolean whole(String text) {
        for (int size = 1; size <= 10; size++) {
            if (begins(text, size) && pattern(size, "[0-" + (size - 1) + "]").matcher(text).matches()) {
                return true;
            }
        }
        return false;
    }

    private int errorPosition() {
        String t = text.toString();
        for (int k = 1; k <= t.length(); k++) {
            if (!begins(t.substring(0, k))) {
                return k - 1;
            }
        }
        return whole(t) ? NONE : t.length();
    }

    private long load() {
        if (errorPosition() != NONE) {
            return STATE;
        }
        int[][] t = first();
        t[0][0] = Integer.parseInt(text.substring(1, 3));
        for (int s = 0; s < t[0][0]; s++) {
            t[SEGMENT + s][0] = text.charAt(3 + s) - '0';
        }
        String parts = text.substring(3 + t[0][0]);
        t[SEGMENT][5] = parts.contains("f") && !parts.contains("f0") ? 0 : 1;
        Matcher m = Pattern.compile("h(.)(.)|w(.)|f(.)").matcher(parts);
        while (m.find()) {
            if (m.group(1) != null) {
                addHouse(t, Integer.parseInt(m.group(1)), Integer.parseInt(m.group(2)));
            } else if (m.group(3) != null) {
                addWagon(t, Integer.parseInt(m.group(3)));
            } else {
                t[SEGMENT + Integer.parseInt(m.group(4))][5] = 1;
            }
        }
        now = t;
        past.clear();
        slots[0] = null;
        slots[1] = null;
        return t[0][0];
    }

    // ---- actions on a table; each answers its number or an exception

    private static long addHouse(int[][] t, long s, long distance) {
        if (!in(s, 0, t[0][0] - 1)) {
            return INDEX;
        }
        if (!in(distance, 0, 9)) {
            return ARGUMENT;
        }
        if (t[0][1] == 8) {
            return STATE;
        }
        t[HOUSE + t[0][1]] = new int[] {(int) s, (int) distance, 0, 0, 0};
        return t[0][1]++;
    }

    private static long addWagon(int[][] t, long s) {
        if (!in(s, 0, t[0][0] - 1)) {
            return INDEX;
        }
        if (t[0][2] == 3) {
            return STATE;
        }
        t[WAGON + t[0][2]] = new int[] {(int) s, 20, 4};
        return t[0][2]++;
    }

    private static long change(int[][] t, long s, int what, long v) {
        if (!in(s, 0, t[0][0] - 1)) {
            return INDEX;
        }
        if (!in(v, what == 1 ? 1 : 0, what == 1 ? 5 : 2)) {
            return ARGUMENT;
        }
        int[] segment = t[SEGMENT + (int) s];
        if (what == 1 && v + segment[2] > 5) {
            return STATE;
        }
        long previous = segment[what];
        segment[what] = (int) v;
        return previous;
    }

    private static long set(int[][] t, long what, long v) {
        long[] most = {20, 9, 200, 99};
        if (!in(what, 5, 8) || !in(v, what == 7 ? 1 : 0, most[(int) what - 5])) {
            return ARGUMENT;
        }
        long previous = t[0][(int) what];
        t[0][(int) what] = (int) v;
        return previous;
    }

    private static long drive(int[][] t, long w, long s) {
        if (!in(w, 0, t[0][2] - 1) || !in(s, 0, t[0][0] - 1)) {
            return INDEX;
        }
        int[] wagon = t[WAGON + (int) w];
        int moves = wagon[2] - (int) Math.abs(wagon[0] - s);
        if (moves < 0) {
            return STATE;
        }
        wagon[0] = (int) s;
        wagon[2] = moves;
        return moves;
    }

    private static long spray(int[][] t, long w, long liters) {
        if (!in(w, 0, t[0][2] - 1)) {
            return INDEX;
        }
        if (!in(liters, 1, 9)) {
            return ARGUMENT;
        }
        int[] wagon = t[WAGON + (int) w];
        if (wagon[2] == 0 || wagon[1] < liters) {
            return STATE;
        }
        wagon[2]--;
        wagon[1] -= liters;
        t[0][11] += liters;
        int[] segment = t[SEGMENT + wagon[0]];
        segment[4] = Math.min(9, segment[4] + (int) liters);
        return segment[4];
    }

    private static long whyNoFill(int[][] t, long w) {
        if (!in(w, 0, t[0][2] - 1)) {
            return INDEX;
        }
        int[] wagon = t[WAGON + (int) w];
        if (wagon[2] == 0) {
            return 1;
        } else if (t[SEGMENT + wagon[0]][5] == 0) {
            return 2;
        } else if (wagon[1] == 20) {
            return 3;
        }
        return t[0][9] >= t[0][8] ? 4 : 0;
    }

    private static long fill(int[][] t, long w) {
        long why = whyNoFill(t, w);
        if (why != 0) {
            return why == INDEX ? INDEX : STATE;
        }
        int liters = 0;
        int[] wagon = t[WAGON + (int) w];
        while (wagon[1] < 20 && t[0][9] < t[0][8]) {
            wagon[1]++;
            t[0][9]++;
            liters++;
        }
        wagon[2]--;
        return liters;
    }

    private static long pass(int[][] t, long hours, long most) {
        if (!in(hours, 1, most)) {
            return ARGUMENT;
        }
        long before = t[0][10];
        for (int k = 0; k < hours; k++) {
            hour(t);
        }
        return t[0][10] - before;
    }

    // ---- an hour

    private static int got(int[][] t, int i) {
        int[] house = t[HOUSE + i];
        int s = house[0];
        int sum = 2 * t[SEGMENT + s][3];
        if (s > 0) {
            sum += t[SEGMENT + s - 1][3];
        }
        if (s < t[0][0] - 1) {
            sum += t[SEGMENT + s + 1][3];
        }
        return sum / (2 + 2 * house[1]);
    }

    private static int gotByAll(int[][] t) {
        int sum = 0;
        for (int i = 0; i < t[0][1]; i++) {
            sum += got(t, i);
        }
        return sum;
    }

    private static int[][] dusty(int[][] t) {
        int sun = t[0][6];
        int[] dry = {sun / 3, sun / 4, sun / 2 + (t[0][5] == 0 ? 0 : 1)};
        int[] n = {3, 2, 1};
        for (int s = 0; s < t[0][0]; s++) {
            int[] g = t[SEGMENT + s];
            g[4] = g[4] < dry[g[0]] ? 0 : g[4] - dry[g[0]];
            g[3] += t[0][5] * g[1] * n[g[0]] * (10 - g[4]) / 10;
            g[3] = g[3] > 999 ? 999 : g[3];
        }
        return t;
    }

    private static void hour(int[][] t) {
        dusty(t);
        for (int i = 0; i < t[0][1]; i++) {
            int[] house = t[HOUSE + i];
            house[4] = got(t, i);
            house[2] += house[4];
            if (house[4] >= t[0][7]) {
                house[3]++;
                t[0][10]++;
                int[] g = t[SEGMENT + house[0]];
                if (++g[6] % 3 == 0) {
                    g[2] += g[2] < 4 ? 1 : 0;
                    g[1] = g[1] > 5 - g[2] ? 5 - g[2] : g[1];
                }
            }
        }
        for (int s = 0; s < t[0][0]; s++) {
            t[SEGMENT + s][3] = t[SEGMENT + s][3] * 3 / 4;
        }
        if (++t[0][4] == 10) {
            t[0][4] = 0;
            t[0][3]++;
            t[0][9] = 0;
        }
        for (int w = 0; w < t[0][2]; w++) {
            t[WAGON + w][2] = 4;
        }
    }

    // ---- what would be

    private long waterFor(int i) {
        for (int liters = 0; liters <= 9; liters++) {
            int[][] t = copy(now);
            int[] g = t[SEGMENT + t[HOUSE + i][0]];
            g[4] = Math.min(9, g[4] + liters);
            if (got(dusty(t), i) < t[0][7]) {
                return liters;
            }
        }
        return NONE;
    }

    private long limitFor(int i) {
        int greatest = NONE;
        for (int limit = 1; limit <= 5 - now[SEGMENT + now[HOUSE + i][0]][2]; limit++) {
            int[][] t = copy(now);
            t[SEGMENT + t[HOUSE + i][0]][1] = limit;
            if (got(dusty(t), i) < t[0][7]) {
                greatest = limit;
            }
        }
        return greatest;
    }

    private long bestSpray(int w, int liters) {
        long best = Long.MAX_VALUE;
        for (int s = 0; s < now[0][0]; s++) {
            int[][] t = copy(now);
            if (in(drive(t, w, s), 0, 9) && in(spray(t, w, liters), 0, 9)) {
                int way = Math.abs(s - now[WAGON + w][0]);
                best = Math.min(best, gotByAll(dusty(t)) * 10000L + way * 100 + s);
            }
        }
        return best == Long.MAX_VALUE ? NONE : best % 100;
    }

    private long complainsIn(int i) {
        for (int hours = 1; hours <= 50; hours++) {
            int[][] t = copy(now);
            for (int k = 0; k < hours - 1; k++) {
                hour(t);
            }
            int before = t[HOUSE + i][3];
            hour(t);
            if (t[HOUSE + i][3] > before) {
                return hours;
            }
        }
        return NONE;
    }

    private long dustiest() {
        long best = Long.MAX_VALUE;
        for (int s = 0; s < now[0][0]; s++) {
            int[][] t = dusty(copy(now));
            t[SEGMENT + s][3] = 0;
            best = Math.min(best, gotByAll(t) * 100L + s);
        }
        return best % 100;
    }

    // ---- scripts, simulations

    private static boolean obeys(int[][] t, String d) {
        int b = d.charAt(1) - '0';
        int v = d.charAt(3) - '0';
        int pair = Integer.parseInt(d.substring(2));
        if (d.matches("10..")) {
            return pass(t, pair, 50) >= 0;
        } else if (d.matches("2.0.")) {
            return drive(t, b, v) >= 0;
        } else if (d.matches("3.0.")) {
            return spray(t, b, v) >= 0;
        } else if (d.matches("4.00")) {
            return fill(t, b) >= 0;
        } else if (d.matches("5.0.")) {
            return change(t, b, 1, v) >= 0;
        } else if (d.matches("6.0.")) {
            return change(t, b, 0, v) >= 0;
        } else if (d.matches("70..")) {
            return set(t, 5, pair) >= 0;
        } else if (d.matches("8...")) {
            return b < t[0][1] && t[HOUSE + b][3] <= pair;
        }
        return d.matches("9...") && b < t[0][0] && t[SEGMENT + b][3] <= 10 * pair;
    }

    private long runScript(long n, long script) {
        if (!in(n, 1, 4) || script < 0 || Long.toString(script).length() > 4 * n) {
            return ARGUMENT;
        }
        String digits = "0".repeat(16) + script;
        digits = digits.substring(digits.length() - 4 * (int) n);
        int[][] t = copy(now);
        for (int k = 0; k < n; k++) {
            if (!obeys(t, digits.substring(4 * k, 4 * k + 4))) {
                return k;
            }
        }
        return NONE;
    }

    private long simulate(long seed, long m) {
        if (!in(m, 1, 99)) {
            return ARGUMENT;
        }
        int[][] t = copy(now);
        long x = seed;
        for (int k = 0; k < m; k++) {
            x = x * 6364136223846793005L + 1442695040888963407L;
            int r = (int) (x >>> 33);
            t[0][5] = r % 21;
            t[0][6] = r / 32 % 10;
            if (t[0][2] > 0) {
                int w = r / 512 % t[0][2];
                int[] wagon = t[WAGON + w];
                if (wagon[1] > 0) {
                    int s = r / 2048 % t[0][0];
                    if (Math.abs(wagon[0] - s) <= wagon[2]) {
                        drive(t, w, s);
                    }
                    if (wagon[2] > 0) {
                        spray(t, w, wagon[1] > 5 ? 5 : wagon[1]);
                    }
                }
            }
            hour(t);
        }
        long sum = t[0][1] == 0 ? 0 : t[HOUSE][2] - now[HOUSE][2];
        return 10000L * (t[0][10] - now[0][10]) + (sum > 9999 ? 9999 : sum);
    }

    // ---- the calls, by their names

    private long action(String name, long a, long b) {
        int[][] before = copy(now);
        long answer;
        switch (name) {
            case "addHouse": answer = addHouse(now, a, b); break;
            case "addWagon": answer = addWagon(now, a); break;
            case "setSurface": answer = change(now, a, 0, b); break;
            case "setLimit": answer = change(now, a, 1, b); break;
            case "set": answer = set(now, a, b); break;
            case "drive": answer = drive(now, a, b); break;
            case "spray": answer = spray(now, a, b); break;
            case "fill": answer = fill(now, a); break;
            default: answer = pass(now, a, 50); break;
        }
        if (answer >= 0) {
            past.add(before);
            if (past.size() > 14) {
                past.remove(0);
            }
        }
        return answer;
    }

    private long undo() {
        if (past.isEmpty()) {
            return STATE;
        }
        now = past.remove(past.size() - 1);
        return past.size();
    }

    private long looked(int from, int count, long k, int most, long what) {
        if (!in(k, 0, count - 1)) {
            return INDEX;
        }
        return in(what, 0, most) ? now[from + (int) k][(int) what] : ARGUMENT;
    }

    private long about(long what) {
        if (what == 12) {
            int dust = 0;
            for (int s = 0; s < now[0][0]; s++) {
                dust += now[SEGMENT + s][3];
            }
            return dust;
        }
        return in(what, 0, 11) ? now[0][(int) what] : ARGUMENT;
    }

    private long append(long c) {
        if (!in(c, 0, 255)) {
            return ARGUMENT;
        }
        if (text.length() == 70) {
            return STATE;
        }
        return text.append((char) c).length();
    }

    private long clearText() {
        long length = text.length();
        text = new StringBuilder();
        return length;
    }

    private long slot(String name, long k) {
        if (!in(k, 0, 1)) {
            return INDEX;
        }
        if (name.equals("save")) {
            slots[(int) k] = copy(now);
        } else if (slots[(int) k] == null) {
            return STATE;
        } else {
            now = copy(slots[(int) k]);
            past.clear();
        }
        return 10L * now[0][3] + now[0][4];
    }

    private long ofHouse(String name, long i, long hours) {
        if (!in(i, 0, now[0][1] - 1)) {
            return INDEX;
        }
        switch (name) {
            case "waterFor": return waterFor((int) i);
            case "limitFor": return limitFor((int) i);
            case "complainsIn": return complainsIn((int) i);
            default:
                int[][] t = copy(now);
                return pass(t, hours, 20) == ARGUMENT ? ARGUMENT : t[HOUSE + (int) i][4];
        }
    }

    private long bestSprayOf(long w, long liters) {
        if (!in(w, 0, now[0][2] - 1)) {
            return INDEX;
        }
        return in(liters, 1, 9) ? bestSpray((int) w, (int) liters) : ARGUMENT;
    }

    long play(String name, long a, long b) {
        switch (name) {
            case "append": return append(a);
            case "clearText": return clearText();
            case "errorPosition": return errorPosition();
            case "load": return load();
            case "about": return about(a);
            case "segment": return looked(SEGMENT, now[0][0], a, 6, b);
            case "house": return looked(HOUSE, now[0][1], a, 4, b);
            case "wagon": return looked(WAGON, now[0][2], a, 2, b);
            case "undo": return undo();
            case "whyNoFill": return whyNoFill(now, a);
            case "ahead": case "waterFor": case "limitFor": case "complainsIn": return ofHouse(name, a, b);
            case "bestSpray": return bestSprayOf(a, b);
            case "dustiest": return dustiest();
            case "runScript": return runScript(a, b);
            case "simulate": return simulate(a, b);
            case "save": case "restore": return slot(name, a);
            default: return action(name, a, b);
        }
    }
}
