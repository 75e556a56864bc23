/** Dust on a quarry road, as ../shared/DOC.md tells it; the promises it keeps are numbered there. */
public final class RoadDust {
    /** There is no such result. */
    public static final int NONE = -9;

    // What a method of Road or Text answers in place of a number where the face has to throw;
    // none of them is NONE or 0 or more, so that they meet no true answer.
    private static final int NO_SUCH = -1;
    private static final int OUT_OF_RANGE = -2;
    private static final int NOT_NOW = -3;

    private static final int MOST_SEGMENTS = 10;
    private static final int MOST_HOUSES = 8;
    private static final int MOST_WAGONS = 3;
    private static final int MOST_SIGNS = 70;
    private static final int MOST_REMEMBERED = 14;
    private static final int SLOTS = 2;

    private static final int MOST_RANK = 4;
    private static final int MOST_LIMIT = 5;
    private static final int MOST_DUST = 999;
    private static final int MOST_WATER = 9;
    private static final int FULL_TANK = 20;
    private static final int MOVES_IN_AN_HOUR = 4;
    private static final int HOURS_IN_A_DAY = 10;
    private static final int MOST_HOURS = 50;
    private static final int MOST_HOURS_AHEAD = 20;
    private static final int MOST_HOURS_SIMULATED = 99;
    private static final int MOST_COMMANDS = 4;

    // The numbers of about that set changes.
    private static final int LORRIES = 5;
    private static final int SUN = 6;
    private static final int BOUND = 7;
    private static final int RIGHT = 8;

    private final Text text = new Text();
    private final Road now = new Road();
    /** The road on which everything is tried out that must not change the present one. */
    private final Road trial = new Road();
    private final History history = new History();
    private final Road[] slots = new Road[SLOTS];
    private final boolean[] saved = new boolean[SLOTS];
    private final int[] commands = new int[MOST_COMMANDS];

    public RoadDust() {
        for (int slot = 0; slot < SLOTS; slot++) {
            slots[slot] = new Road();
        }
    }

    // ---- text

    public int append(int c) throws IllegalArgumentException, IllegalStateException {
        return answered(text.put(c));
    }

    public int clearText() {
        return text.makeEmpty();
    }

    public int errorPosition() {
        return text.readInto(trial);
    }

    public int load() throws IllegalStateException {
        if (text.readInto(trial) != NONE) {
            throw new IllegalStateException("the text is not a road");
        }
        now.copyFrom(trial);
        history.forgetAll();
        for (int slot = 0; slot < SLOTS; slot++) {
            saved[slot] = false;
        }
        return now.segments;
    }

    // ---- what there is

    public int about(int what) throws IllegalArgumentException {
        return answered(now.number(what));
    }

    public int segment(int s, int what) throws IndexOutOfBoundsException, IllegalArgumentException {
        Segment segment = now.segmentAt(s);
        return answered(segment == null ? NO_SUCH : segment.number(what));
    }

    public int house(int i, int what) throws IndexOutOfBoundsException, IllegalArgumentException {
        House house = now.houseAt(i);
        return answered(house == null ? NO_SUCH : house.number(what));
    }

    public int wagon(int w, int what) throws IndexOutOfBoundsException, IllegalArgumentException {
        Wagon wagon = now.wagonAt(w);
        return answered(wagon == null ? NO_SUCH : wagon.number(what));
    }

    // ---- actions

    public int addHouse(int s, int distance)
            throws IndexOutOfBoundsException, IllegalArgumentException, IllegalStateException {
        history.draft(now);
        return acted(now.buildHouse(s, distance));
    }

    public int addWagon(int s) throws IndexOutOfBoundsException, IllegalStateException {
        history.draft(now);
        return acted(now.bringWagon(s));
    }

    public int setSurface(int s, int surface) throws IndexOutOfBoundsException, IllegalArgumentException {
        history.draft(now);
        return acted(now.changeSurface(s, surface));
    }

    public int setLimit(int s, int limit)
            throws IndexOutOfBoundsException, IllegalArgumentException, IllegalStateException {
        history.draft(now);
        return acted(now.changeLimit(s, limit));
    }

    public int set(int what, int v) throws IllegalArgumentException {
        history.draft(now);
        return acted(now.changeNumber(what, v));
    }

    public int drive(int w, int s) throws IndexOutOfBoundsException, IllegalStateException {
        history.draft(now);
        return acted(now.moveWagon(w, s));
    }

    public int spray(int w, int liters)
            throws IndexOutOfBoundsException, IllegalArgumentException, IllegalStateException {
        history.draft(now);
        return acted(now.sprayFrom(w, liters));
    }

    public int fill(int w) throws IndexOutOfBoundsException, IllegalStateException {
        history.draft(now);
        return acted(now.fillTank(w));
    }

    public int pass(int hours) throws IllegalArgumentException {
        history.draft(now);
        return acted(now.goHours(hours));
    }

    public int undo() throws IllegalStateException {
        if (!history.takeBack(now)) {
            throw new IllegalStateException("no state is remembered");
        }
        return history.count;
    }

    // ---- what would be

    public int whyNoFill(int w) throws IndexOutOfBoundsException {
        Wagon wagon = now.wagonAt(w);
        return answered(wagon == null ? NO_SUCH : now.whyNoWater(wagon));
    }

    public int ahead(int i, int hours) throws IndexOutOfBoundsException, IllegalArgumentException {
        trial.copyFrom(now);
        House house = trial.houseAt(i);
        if (house == null) {
            throw new IndexOutOfBoundsException("no such house");
        }
        if (!within(hours, 1, MOST_HOURS_AHEAD)) {
            throw new IllegalArgumentException("hours out of range");
        }
        trial.goHours(hours);
        return house.got;
    }

    public int waterFor(int i) throws IndexOutOfBoundsException {
        House house = now.houseAt(i);
        if (house == null) {
            throw new IndexOutOfBoundsException("no such house");
        }
        for (int liters = 0; liters <= MOST_WATER; liters++) {
            tryWater(house.segment, liters);
            if (trial.dustFor(house) < trial.bound) {
                return liters;
            }
        }
        return NONE;
    }

    public int limitFor(int i) throws IndexOutOfBoundsException {
        House house = now.houseAt(i);
        if (house == null) {
            throw new IndexOutOfBoundsException("no such house");
        }
        for (int limit = MOST_LIMIT; limit >= 1; limit--) {
            trial.copyFrom(now);
            if (trial.changeLimit(house.segment, limit) >= 0) {
                trial.raiseDust();
                if (trial.dustFor(house) < trial.bound) {
                    return limit;
                }
            }
        }
        return NONE;
    }

    public int bestSpray(int w, int liters) throws IndexOutOfBoundsException, IllegalArgumentException {
        Wagon wagon = now.wagonAt(w);
        if (wagon == null) {
            throw new IndexOutOfBoundsException("no such wagon");
        }
        if (!within(liters, 1, MOST_WATER)) {
            throw new IllegalArgumentException("liters out of range");
        }
        int best = NONE;
        int least = 0;
        for (int s = 0; s < now.segments; s++) {
            if (wagon.couldSpray(s, liters)) {
                tryWater(s, liters);
                int dust = trial.dustForAll();
                boolean nearer = best != NONE && wagon.wayTo(s) < wagon.wayTo(best);
                if (best == NONE || dust < least || (dust == least && nearer)) {
                    best = s;
                    least = dust;
                }
            }
        }
        return best;
    }

    public int complainsIn(int i) throws IndexOutOfBoundsException {
        trial.copyFrom(now);
        House house = trial.houseAt(i);
        if (house == null) {
            throw new IndexOutOfBoundsException("no such house");
        }
        int earlier = house.complaints;
        for (int hours = 1; hours <= MOST_HOURS; hours++) {
            trial.goHour();
            if (house.complaints != earlier) {
                return hours;
            }
        }
        return NONE;
    }

    public int dustiest() {
        trial.copyFrom(now);
        trial.raiseDust();
        int dustiest = 0;
        int least = trial.dustWithout(0);
        for (int s = 1; s < now.segments; s++) {
            int dust = trial.dustWithout(s);
            if (dust < least) {
                dustiest = s;
                least = dust;
            }
        }
        return dustiest;
    }

    // ---- scripts, simulations

    public int runScript(int n, long script) throws IllegalArgumentException {
        if (!within(n, 1, MOST_COMMANDS) || script < 0 || !splitScript(n, script)) {
            throw new IllegalArgumentException("no script of so many commands");
        }
        trial.copyFrom(now);
        for (int k = 0; k < n && k < MOST_COMMANDS; k++) {
            if (!trial.obeys(commands[k])) {
                return k;
            }
        }
        return NONE;
    }

    public int simulate(long seed, int m) throws IllegalArgumentException {
        if (!within(m, 1, MOST_HOURS_SIMULATED)) {
            throw new IllegalArgumentException("hours out of range");
        }
        trial.copyFrom(now);
        House first = trial.houseAt(0);
        long x = seed;
        int sum = 0;
        for (int hour = 0; hour < m; hour++) {
            x = x * 6364136223846793005L + 1442695040888963407L;
            trial.meetChance((int) (x >>> 33));
            trial.goHour();
            sum += first == null ? 0 : first.got;
        }
        return 10000 * (trial.complaints - now.complaints) + Math.min(9999, sum);
    }

    // ---- save slots

    public int save(int slot) throws IndexOutOfBoundsException {
        if (slot < 0 || slot >= SLOTS) {
            throw new IndexOutOfBoundsException("no such save slot");
        }
        slots[slot].copyFrom(now);
        saved[slot] = true;
        return now.time();
    }

    public int restore(int slot) throws IndexOutOfBoundsException, IllegalStateException {
        if (slot < 0 || slot >= SLOTS) {
            throw new IndexOutOfBoundsException("no such save slot");
        }
        if (!saved[slot]) {
            throw new IllegalStateException("nothing has been saved in it");
        }
        now.copyFrom(slots[slot]);
        history.forgetAll();
        return now.time();
    }

    // ---- helpers of the face

    /** Passes a true answer on and throws what stands for one that is none. */
    private static int answered(int answer) {
        if (answer == NO_SUCH) {
            throw new IndexOutOfBoundsException("no such segment, house or wagon");
        }
        if (answer == OUT_OF_RANGE) {
            throw new IllegalArgumentException("an argument is out of range");
        }
        if (answer == NOT_NOW) {
            throw new IllegalStateException("this cannot be done now");
        }
        return answer;
    }

    /** As answered; what did not throw was an action, and the draft of the state before it is kept. */
    private int acted(int answer) {
        int result = answered(answer);
        history.keepDraft();
        return result;
    }

    private static boolean within(int v, int least, int most) {
        return v >= least && v <= most;
    }

    /** Brings the trial to the present state with so much more water, and its next hour up to the dust. */
    private void tryWater(int s, int liters) {
        trial.copyFrom(now);
        Segment segment = trial.segmentAt(s);
        if (segment != null) {
            segment.wet(liters);
        }
        trial.raiseDust();
    }

    /** Splits a script into its n commands; answers whether it has no digits beyond them. */
    private boolean splitScript(int n, long script) {
        long rest = script;
        for (int k = n - 1; k >= 0; k--) {
            if (k < MOST_COMMANDS) {
                commands[k] = (int) (rest % 10000);
            }
            rest /= 10000;
        }
        return rest == 0;
    }

    /** One segment of the road. */
    private static final class Segment {
        static final int CHIPPINGS = 1;
        static final int PAVED = 2;

        int surface;
        int limit;
        int rank;
        int dust;
        int water;
        boolean filling;
        int complaints;

        void beNew() {
            surface = 0;
            limit = 3;
            rank = 0;
            dust = 0;
            water = 0;
            filling = false;
            complaints = 0;
        }

        void copyFrom(Segment other) {
            surface = other.surface;
            limit = other.limit;
            rank = other.rank;
            dust = other.dust;
            water = other.water;
            filling = other.filling;
            complaints = other.complaints;
        }

        int number(int what) {
            switch (what) {
                case 0: return surface;
                case 1: return limit;
                case 2: return rank;
                case 3: return dust;
                case 4: return water;
                case 5: return filling ? 1 : 0;
                case 6: return complaints;
                default: return OUT_OF_RANGE;
            }
        }

        int greatestLimit() {
            return MOST_LIMIT - rank;
        }

        void wet(int liters) {
            water = Math.min(MOST_WATER, water + liters);
        }

        void dry(int sun, int lorries) {
            water = Math.max(0, water - waterLoss(sun, lorries));
        }

        private int waterLoss(int sun, int lorries) {
            switch (surface) {
                case CHIPPINGS: return sun / 4;
                case PAVED: return sun / 2 + (lorries > 0 ? 1 : 0);
                default: return sun / 3;
            }
        }

        void raise(int lorries) {
            int looseness = 3 - surface;
            dust = Math.min(MOST_DUST, dust + lorries * limit * looseness * (10 - water) / 10);
        }

        void settle() {
            dust = dust * 3 / 4;
        }

        void hearComplaint() {
            complaints++;
            if (complaints % 3 == 0) {
                rank = Math.min(MOST_RANK, rank + 1);
                limit = Math.min(limit, greatestLimit());
            }
        }
    }

    /** One house beside the road. */
    private static final class House {
        int segment;
        int distance;
        int sum;
        int complaints;
        int got;

        void beNew(int s, int away) {
            segment = s;
            distance = away;
            sum = 0;
            complaints = 0;
            got = 0;
        }

        void copyFrom(House other) {
            segment = other.segment;
            distance = other.distance;
            sum = other.sum;
            complaints = other.complaints;
            got = other.got;
        }

        int number(int what) {
            switch (what) {
                case 0: return segment;
                case 1: return distance;
                case 2: return sum;
                case 3: return complaints;
                case 4: return got;
                default: return OUT_OF_RANGE;
            }
        }
    }

    /** One tank wagon. */
    private static final class Wagon {
        int segment;
        int liters;
        int moves;

        void beNew(int s) {
            segment = s;
            liters = FULL_TANK;
            moves = MOVES_IN_AN_HOUR;
        }

        void copyFrom(Wagon other) {
            segment = other.segment;
            liters = other.liters;
            moves = other.moves;
        }

        int number(int what) {
            switch (what) {
                case 0: return segment;
                case 1: return liters;
                case 2: return moves;
                default: return OUT_OF_RANGE;
            }
        }

        int wayTo(int s) {
            return Math.abs(s - segment);
        }

        boolean couldSpray(int s, int wanted) {
            return moves > wayTo(s) && liters >= wanted;
        }
    }

    /** The whole state but for the text, the remembered states and the save slots. */
    private static final class Road {
        int segments;
        int houses;
        int wagons;
        int day;
        int hour;
        int lorries;
        int sun;
        int bound;
        int right;
        int filled;
        int complaints;
        int sprayed;
        // The rows hold as many as there can ever be; the counts above tell how many exist.
        final Segment[] segmentRow = new Segment[MOST_SEGMENTS];
        final House[] houseRow = new House[MOST_HOUSES];
        final Wagon[] wagonRow = new Wagon[MOST_WAGONS];

        Road() {
            for (int s = 0; s < MOST_SEGMENTS; s++) {
                segmentRow[s] = new Segment();
            }
            for (int i = 0; i < MOST_HOUSES; i++) {
                houseRow[i] = new House();
            }
            for (int w = 0; w < MOST_WAGONS; w++) {
                wagonRow[w] = new Wagon();
            }
            beNew();
        }

        void beNew() {
            segments = 4;
            houses = 0;
            wagons = 0;
            day = 0;
            hour = 0;
            lorries = 10;
            sun = 5;
            bound = 50;
            right = 40;
            filled = 0;
            complaints = 0;
            sprayed = 0;
            for (Segment segment : segmentRow) {
                segment.beNew();
            }
            tellFillingPlaces(1);
        }

        void copyFrom(Road other) {
            segments = other.segments;
            houses = other.houses;
            wagons = other.wagons;
            day = other.day;
            hour = other.hour;
            lorries = other.lorries;
            sun = other.sun;
            bound = other.bound;
            right = other.right;
            filled = other.filled;
            complaints = other.complaints;
            sprayed = other.sprayed;
            for (int s = 0; s < MOST_SEGMENTS; s++) {
                segmentRow[s].copyFrom(other.segmentRow[s]);
            }
            for (int i = 0; i < MOST_HOUSES; i++) {
                houseRow[i].copyFrom(other.houseRow[i]);
            }
            for (int w = 0; w < MOST_WAGONS; w++) {
                wagonRow[w].copyFrom(other.wagonRow[w]);
            }
        }

        /** The segment of this number; null if there is none. */
        Segment segmentAt(int s) {
            return s >= 0 && s < segments && s < MOST_SEGMENTS ? segmentRow[s] : null;
        }

        /** The house of this number; null if there is none. */
        House houseAt(int i) {
            return i >= 0 && i < houses && i < MOST_HOUSES ? houseRow[i] : null;
        }

        /** The wagon of this number; null if there is none. */
        Wagon wagonAt(int w) {
            return w >= 0 && w < wagons && w < MOST_WAGONS ? wagonRow[w] : null;
        }

        int time() {
            return HOURS_IN_A_DAY * day + hour;
        }

        int number(int what) {
            switch (what) {
                case 0: return segments;
                case 1: return houses;
                case 2: return wagons;
                case 3: return day;
                case 4: return hour;
                case LORRIES: return lorries;
                case SUN: return sun;
                case BOUND: return bound;
                case RIGHT: return right;
                case 9: return filled;
                case 10: return complaints;
                case 11: return sprayed;
                case 12: return dustOfAll();
                default: return OUT_OF_RANGE;
            }
        }

        private int dustOfAll() {
            int dust = 0;
            for (int s = 0; s < segments; s++) {
                dust += dustAt(s);
            }
            return dust;
        }

        /** The segments whose bits are set become the filling places. */
        void tellFillingPlaces(int told) {
            for (int s = 0; s < MOST_SEGMENTS; s++) {
                segmentRow[s].filling = (told >> s & 1) == 1;
            }
        }

        // -- each action answers its number, or what the face throws; then it has changed nothing

        int buildHouse(int s, int distance) {
            if (segmentAt(s) == null) {
                return NO_SUCH;
            }
            if (!within(distance, 0, 9)) {
                return OUT_OF_RANGE;
            }
            if (houses < 0 || houses >= MOST_HOUSES) {
                return NOT_NOW;
            }
            houseRow[houses].beNew(s, distance);
            houses++;
            return houses - 1;
        }

        int bringWagon(int s) {
            if (segmentAt(s) == null) {
                return NO_SUCH;
            }
            if (wagons < 0 || wagons >= MOST_WAGONS) {
                return NOT_NOW;
            }
            wagonRow[wagons].beNew(s);
            wagons++;
            return wagons - 1;
        }

        int changeSurface(int s, int surface) {
            Segment segment = segmentAt(s);
            if (segment == null) {
                return NO_SUCH;
            }
            if (!within(surface, 0, Segment.PAVED)) {
                return OUT_OF_RANGE;
            }
            int previous = segment.surface;
            segment.surface = surface;
            return previous;
        }

        int changeLimit(int s, int limit) {
            Segment segment = segmentAt(s);
            if (segment == null) {
                return NO_SUCH;
            }
            if (!within(limit, 1, MOST_LIMIT)) {
                return OUT_OF_RANGE;
            }
            if (limit > segment.greatestLimit()) {
                return NOT_NOW;
            }
            int previous = segment.limit;
            segment.limit = limit;
            return previous;
        }

        int changeNumber(int what, int v) {
            int previous = number(what);
            if (what == LORRIES && within(v, 0, 20)) {
                lorries = v;
            } else if (what == SUN && within(v, 0, 9)) {
                sun = v;
            } else if (what == BOUND && within(v, 1, 200)) {
                bound = v;
            } else if (what == RIGHT && within(v, 0, 99)) {
                right = v;
            } else {
                return OUT_OF_RANGE;
            }
            return previous;
        }

        int moveWagon(int w, int s) {
            Wagon wagon = wagonAt(w);
            if (wagon == null || segmentAt(s) == null) {
                return NO_SUCH;
            }
            int way = wagon.wayTo(s);
            if (way > wagon.moves) {
                return NOT_NOW;
            }
            wagon.moves -= way;
            wagon.segment = s;
            return wagon.moves;
        }

        int sprayFrom(int w, int liters) {
            Wagon wagon = wagonAt(w);
            Segment segment = wagon == null ? null : segmentAt(wagon.segment);
            if (wagon == null || segment == null) {
                return NO_SUCH;
            }
            if (!within(liters, 1, MOST_WATER)) {
                return OUT_OF_RANGE;
            }
            if (!wagon.couldSpray(wagon.segment, liters)) {
                return NOT_NOW;
            }
            wagon.moves--;
            wagon.liters -= liters;
            sprayed += liters;
            segment.wet(liters);
            return segment.water;
        }

        int fillTank(int w) {
            Wagon wagon = wagonAt(w);
            if (wagon == null) {
                return NO_SUCH;
            }
            if (whyNoWater(wagon) != 0) {
                return NOT_NOW;
            }
            int liters = Math.min(FULL_TANK - wagon.liters, right - filled);
            wagon.moves--;
            wagon.liters += liters;
            filled += liters;
            return liters;
        }

        int goHours(int hours) {
            if (!within(hours, 1, MOST_HOURS)) {
                return OUT_OF_RANGE;
            }
            int earlier = complaints;
            for (int k = 0; k < hours; k++) {
                goHour();
            }
            return complaints - earlier;
        }

        int whyNoWater(Wagon wagon) {
            if (wagon.moves <= 0) {
                return 1;
            }
            Segment segment = segmentAt(wagon.segment);
            if (segment == null || !segment.filling) {
                return 2;
            }
            if (wagon.liters >= FULL_TANK) {
                return 3;
            }
            return filled >= right ? 4 : 0;
        }

        // -- an hour

        void goHour() {
            raiseDust();
            reachHouses();
            for (Segment segment : segmentRow) {
                segment.settle();
            }
            turnClock();
        }

        /** The parts 1 and 2 of an hour. */
        void raiseDust() {
            for (Segment segment : segmentRow) {
                segment.dry(sun, lorries);
                segment.raise(lorries);
            }
        }

        private void reachHouses() {
            for (int i = 0; i < houses; i++) {
                House house = houseAt(i);
                Segment segment = house == null ? null : segmentAt(house.segment);
                if (house != null && segment != null) {
                    house.got = dustFor(house);
                    house.sum += house.got;
                    if (house.got >= bound) {
                        complaints++;
                        house.complaints++;
                        segment.hearComplaint();
                    }
                }
            }
        }

        private void turnClock() {
            hour++;
            if (hour >= HOURS_IN_A_DAY) {
                hour = 0;
                day++;
                filled = 0;
            }
            for (Wagon wagon : wagonRow) {
                wagon.moves = MOVES_IN_AN_HOUR;
            }
        }

        // -- dust that comes to houses

        /** The dust of a segment; 0 where the road has none, as before its first one and behind its last one. */
        private int dustAt(int s) {
            return s >= 0 && s < segments && s < MOST_SEGMENTS ? segmentRow[s].dust : 0;
        }

        /** What a house gets from the dust as it lies now. */
        int dustFor(House house) {
            int s = house.segment;
            int share = 2 * (1 + house.distance);
            return share <= 0 ? 0 : (2 * dustAt(s) + dustAt(s - 1) + dustAt(s + 1)) / share;
        }

        int dustForAll() {
            int dust = 0;
            for (int i = 0; i < houses; i++) {
                House house = houseAt(i);
                dust += house == null ? 0 : dustFor(house);
            }
            return dust;
        }

        /** What all houses get if the dust of one segment counts as 0. */
        int dustWithout(int s) {
            Segment segment = segmentAt(s);
            if (segment == null) {
                return dustForAll();
            }
            int dust = segment.dust;
            segment.dust = 0;
            int sum = dustForAll();
            segment.dust = dust;
            return sum;
        }

        // -- scripts, simulations

        /** Carries out a command of four digits; answers whether it succeeds. */
        boolean obeys(int command) {
            int second = command / 100 % 10;
            int last = command % 10;
            int pair = command % 100;
            boolean thirdIsZero = pair < 10;
            switch (command / 1000) {
                case 1: return second == 0 && goHours(pair) >= 0;
                case 2: return thirdIsZero && moveWagon(second, last) >= 0;
                case 3: return thirdIsZero && sprayFrom(second, last) >= 0;
                case 4: return pair == 0 && fillTank(second) >= 0;
                case 5: return thirdIsZero && changeLimit(second, last) >= 0;
                case 6: return thirdIsZero && changeSurface(second, last) >= 0;
                case 7: return second == 0 && changeNumber(LORRIES, pair) >= 0;
                case 8: return complainsAtMost(second, pair);
                case 9: return segmentAt(second) != null && dustAt(second) <= 10 * pair;
                default: return false;
            }
        }

        private boolean complainsAtMost(int i, int most) {
            House house = houseAt(i);
            return house != null && house.complaints <= most;
        }

        /** What a number of chance, 0 or more, does before an hour of a simulation. */
        void meetChance(int r) {
            lorries = r % 21;
            sun = r / 32 % 10;
            if (wagons > 0 && segments > 0) {
                int w = r / 512 % wagons;
                Wagon wagon = wagonAt(w);
                if (wagon != null && wagon.liters > 0) {
                    // Either may be refused: then the wagon stays, or sprays nothing.
                    moveWagon(w, r / 2048 % segments);
                    sprayFrom(w, Math.min(5, wagon.liters));
                }
            }
        }
    }

    /** The remembered states, the oldest first. */
    private static final class History {
        // One more than are remembered: the draft stands behind them.
        private final Road[] past = new Road[MOST_REMEMBERED + 1];
        int count;

        History() {
            for (int k = 0; k <= MOST_REMEMBERED; k++) {
                past[k] = new Road();
            }
        }

        void forgetAll() {
            count = 0;
        }

        /** Notes a state that is remembered only if keepDraft follows. */
        void draft(Road road) {
            if (count >= 0 && count <= MOST_REMEMBERED) {
                past[count].copyFrom(road);
            }
        }

        void keepDraft() {
            count++;
            if (count > MOST_REMEMBERED) {
                forgetOldest();
            }
        }

        private void forgetOldest() {
            Road oldest = past[0];
            for (int k = 0; k < MOST_REMEMBERED; k++) {
                past[k] = past[k + 1];
            }
            past[MOST_REMEMBERED] = oldest;
            count = MOST_REMEMBERED;
        }

        /** Brings the newest remembered state back; false if there is none. */
        boolean takeBack(Road road) {
            if (count <= 0 || count > MOST_REMEMBERED) {
                return false;
            }
            count--;
            road.copyFrom(past[count]);
            return true;
        }
    }

    /** The text buffer and its reader. */
    private static final class Text {
        private static final int NOT_ALLOWED = -1;

        private final char[] signs = new char[MOST_SIGNS];
        private int length;
        // Where the reading stands: it never goes beyond what is allowed, so it ends at the error position.
        private int at;
        /** The segments told as filling places, a bit each. */
        private int told;

        int put(int c) {
            if (!within(c, 0, 255)) {
                return OUT_OF_RANGE;
            }
            if (length < 0 || length >= MOST_SIGNS) {
                return NOT_NOW;
            }
            signs[length] = (char) c;
            length++;
            return length;
        }

        int makeEmpty() {
            int previous = length;
            length = 0;
            return previous;
        }

        /** Makes a road as the text tells; answers the error position, NONE if the text is a road. */
        int readInto(Road road) {
            at = 0;
            told = 0;
            road.beNew();
            if (!takeSign('R') || !takeSize(road) || !takeSurfaces(road) || !takeParts(road)) {
                return at;
            }
            if (told != 0) {
                road.tellFillingPlaces(told);
            }
            return NONE;
        }

        private boolean takeSize(Road road) {
            int tens = takeDigit(below(2));
            if (tens == NOT_ALLOWED) {
                return false;
            }
            int ones = takeDigit(tens == 0 ? below(10) & ~below(1) : below(1));
            if (ones == NOT_ALLOWED) {
                return false;
            }
            road.segments = 10 * tens + ones;
            return true;
        }

        private boolean takeSurfaces(Road road) {
            for (int s = 0; s < road.segments; s++) {
                int surface = takeDigit(below(3));
                if (surface == NOT_ALLOWED) {
                    return false;
                }
                road.changeSurface(s, surface);
            }
            return true;
        }

        private boolean takeParts(Road road) {
            for (int part = 0; part < MOST_SIGNS && at < length; part++) {
                if (!takePart(road)) {
                    return false;
                }
            }
            return true;
        }

        private boolean takePart(Road road) {
            if (road.houses < MOST_HOUSES && takeSign('h')) {
                return takeHouse(road);
            }
            if (road.wagons < MOST_WAGONS && takeSign('w')) {
                return road.bringWagon(takeDigit(below(road.segments))) >= 0;
            }
            int untold = below(road.segments) & ~told;
            return untold != 0 && takeSign('f') && takeFillingPlace(untold);
        }

        private boolean takeHouse(Road road) {
            int s = takeDigit(below(road.segments));
            if (s == NOT_ALLOWED) {
                return false;
            }
            int distance = takeDigit(below(10));
            return distance != NOT_ALLOWED && road.buildHouse(s, distance) >= 0;
        }

        private boolean takeFillingPlace(int untold) {
            int s = takeDigit(untold);
            if (s == NOT_ALLOWED) {
                return false;
            }
            told |= 1 << s;
            return true;
        }

        /** The bits of the digits that are smaller than n. */
        private static int below(int n) {
            return (1 << n) - 1;
        }

        private boolean takeSign(char sign) {
            if (signAt() != sign) {
                return false;
            }
            at++;
            return true;
        }

        /** Takes a digit whose bit is set. */
        private int takeDigit(int allowed) {
            int digit = signAt() - '0';
            if (!within(digit, 0, 9) || (allowed >> digit & 1) == 0) {
                return NOT_ALLOWED;
            }
            at++;
            return digit;
        }

        /** The sign that is read next; NOT_ALLOWED at the end of the text. */
        private int signAt() {
            return at >= 0 && at < length && at < MOST_SIGNS ? signs[at] : NOT_ALLOWED;
        }
    }
}
