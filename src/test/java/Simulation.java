import java.util.Arrays;

/** The hours of a simulation as actions on an object: chance sets the lorries and the sun, and one wagon works. */
final class Simulation {
    final RoadDust road;
    /** What the house 0 got, and all complaints, in the hours so far. */
    long sum;
    long complaints;
    private final int segments;
    private final int houses;
    private final int wagons;
    // The wagons are kept here as well, so that 99 hours take less than 512 calls.
    private final int[] place;
    private final int[] liters;
    private final int[] moves;

    Simulation(RoadDust road) {
        this.road = road;
        segments = road.about(0);
        houses = road.about(1);
        wagons = road.about(2);
        place = new int[wagons];
        liters = new int[wagons];
        moves = new int[wagons];
        for (int w = 0; w < wagons; w++) {
            place[w] = road.wagon(w, 0);
            liters[w] = road.wagon(w, 1);
            moves[w] = road.wagon(w, 2);
        }
    }

    static long next(long x) {
        return x * 6364136223846793005L + 1442695040888963407L;
    }

    static int chance(long x) {
        return (int) (x >>> 33);
    }

    void run(long seed, int m) {
        long x = seed;
        for (int hour = 0; hour < m; hour++) {
            x = next(x);
            int r = chance(x);
            road.set(5, r % 21);
            road.set(6, r / 32 % 10);
            if (wagons > 0) {
                work(r / 512 % wagons, r / 2048 % segments);
            }
            complaints += road.pass(1);
            sum += houses > 0 ? road.house(0, 4) : 0;
            Arrays.fill(moves, 4);
        }
    }

    private void work(int w, int s) {
        if (liters[w] == 0) {
            return;
        }
        int way = Math.abs(s - place[w]);
        if (way > 0 && way <= moves[w]) {
            road.drive(w, s);
            place[w] = s;
            moves[w] -= way;
        }
        if (moves[w] > 0) {
            int some = Math.min(5, liters[w]);
            road.spray(w, some);
            liters[w] -= some;
        }
    }

    long answer() {
        return 10000 * complaints + Math.min(9999, sum);
    }

    /** What a simulation of these hours is to answer; the object has gone through them then. */
    static long answer(RoadDust road, long seed, int m) {
        Simulation simulation = new Simulation(road);
        simulation.run(seed, m);
        return simulation.answer();
    }
}
