import java.util.Arrays;

/** Promises 10 and 11: set and present. */
public final class ThingsTest {
    private static final Bench BENCH = new Bench("ThingsTest");

    public static void main(String[] args) {
        ranksInOrder();
        defaults();
        takingAway();
        refusals();
        BENCH.due("present(-1)", new Station(0, 1).present(-1), 0);
        BENCH.due("present(4)", new Station(0, 1).present(4), 0);
        BENCH.due("present(lowest)", new Station(0, 1).present(Integer.MIN_VALUE), 0);
        BENCH.due("present(highest)", new Station(0, 1).present(Integer.MAX_VALUE), 0);
        BENCH.end();
    }

    private static void ranksInOrder() {
        for (int thing = 0; thing < 2; thing++) {
            Station x = new Station(0, 1);
            for (int r = 16; r >= 0; r--) {
                BENCH.due("set rank " + r, x.set(thing, r, 100 - r, false), true);
                BENCH.due("present, rank " + r, x.present(thing), r == 0 ? 99 : 100 - r);
            }
            BENCH.due("the other thing", x.present(1 - thing), 0);
            x.set(thing, 2, 7, false);
            BENCH.due("present behind a lower rank", x.present(thing), 99);
            x.set(thing, 1, Integer.MIN_VALUE, false);
            BENCH.due("present of the lowest int", x.present(thing), Integer.MIN_VALUE);
        }
    }

    private static void defaults() {
        Station x = new Station(0, 1);
        for (int thing = 0; thing < 4; thing++) {
            BENCH.due("set the default", x.set(thing, 0, 1, false), true);
            BENCH.due("present is the default", x.present(thing), 1);
            x.set(thing, 16, 0, false);
            BENCH.due("rank 16 of value 0 goes before", x.present(thing), 0);
        }
        BENCH.due("a large default", x.set(1, 0, Integer.MAX_VALUE, false), true);
        x.set(1, 16, 0, true);
        BENCH.due("present is the large default", x.present(1), Integer.MAX_VALUE);
    }

    private static void takingAway() {
        Station x = new Station(0, 1);
        x.set(3, 0, 1, false);
        x.set(3, 5, 0, false);
        BENCH.due("take away, the value does not matter", x.set(3, 5, 99, true), true);
        BENCH.due("present behind it", x.present(3), 1);
        BENCH.due("take away what is not there", x.set(3, 16, 0, true), true);
        BENCH.due("take away rank 1", x.set(0, 1, 0, true), true);
    }

    private static void refusals() {
        int[][] wrong = {
            {-1, 1, 1}, {4, 1, 1}, {Integer.MIN_VALUE, 1, 1}, {Integer.MAX_VALUE, 1, 1},
            {0, -1, 1}, {0, 17, 1}, {2, -1, 1}, {2, 17, 1}, {1, Integer.MIN_VALUE, 1}, {1, Integer.MAX_VALUE, 1},
        };
        Station x = new Station(0, 1);
        for (int[] w : wrong) {
            String call = "set" + Arrays.toString(w);
            BENCH.due(call, x.set(w[0], w[1], w[2], false), false);
            BENCH.due(call + " none", x.set(w[0], w[1], w[2], true), false);
        }
        for (int thing = 0; thing < 4; thing++) {
            BENCH.due("none of the default", x.set(thing, 0, 0, true), false);
            BENCH.due("present behind all refusals", x.present(thing), 0);
        }
        for (int thing = 2; thing < 4; thing++) {
            BENCH.due("a 2", x.set(thing, 3, 2, false), false);
            BENCH.due("a -1", x.set(thing, 3, -1, false), false);
            BENCH.due("a 2 as default", x.set(thing, 0, 2, false), false);
            BENCH.due("present behind these", x.present(thing), 0);
            BENCH.due("a 1", x.set(thing, 3, 1, false), true);
            BENCH.due("a 2 in its place", x.set(thing, 3, 2, false), false);
            BENCH.due("the 1 stays", x.present(thing), 1);
        }
    }
}
