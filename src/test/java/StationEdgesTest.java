/** Promise 1 and "Terms": the edges of the station's number, and what comes behind M wherever 1 is added. */
public final class StationEdgesTest {
    private static final Bench BENCH = new Bench("StationEdgesTest");
    private static final String WRAP = "Where 1 is added to a station's number below, what comes behind M is 0.";
    private static final int SOLE = 2048;

    public static void main(String[] args) {
        mostTooSmallOrLarge();
        stationTooSmallOrLarge();
        valuesAtFirst();
        doneLooksBehindOwn();
        donePollsBehindMost();
        doneMeetsNextBehindMost();
        donePollsBehindMostWhenSole();
        doneOfSoleBeginsBehindMost();
        passingGivesUpTheHighest();
        lostLooksBehindOwn();
        pollingGoesOnBehindMost();
        pollingMeetsOwnBehindMost();
        onlyTwoStations();
        BENCH.end();
    }

    private static void mostTooSmallOrLarge() {
        BENCH.sentence("M is most, but 1 when that is less and 15 when it is more");
        int[][] mosts = {
            {Integer.MIN_VALUE, 1}, {-1, 1}, {0, 1}, {1, 1}, {2, 2}, {14, 14}, {15, 15}, {16, 15},
            {Integer.MAX_VALUE, 15},
        };
        for (int[] m : mosts) {
            Station x = new Station(0, m[0]);
            String most = " when most is " + m[0];
            BENCH.due("ask of " + m[1] + most, x.ask(m[1], 0, 0, 0, 0), true);
            BENCH.due("ask of " + (m[1] + 1) + most, x.ask(m[1] + 1, 0, 0, 0, 0), false);
        }
    }

    private static void stationTooSmallOrLarge() {
        BENCH.sentence("T is station, but 0 when that is less and M when it is more.");
        for (int most = 1; most <= 15; most++) {
            int[][] stations = {
                {Integer.MIN_VALUE, 0}, {-1, 0}, {0, 0}, {1, 1}, {most - 1, most - 1}, {most, most},
                {most + 1, most}, {Integer.MAX_VALUE, most},
            };
            for (int[] s : stations) {
                Station x = new Station(s[0], most);
                String call = "a poll of station " + s[0] + " of " + most;
                BENCH.due(call, Bench.hearAll(x, Bench.frame(1, s[1], 0)), 8);
                BENCH.due(call + ", FROM", x.sent(4), s[1]);
            }
        }
        BENCH.due("station 5 when most is too small", new Station(5, 0).state(), 136);
        BENCH.due("station 20 when most is too large", new Station(20, 20).state(), 15 * 136);
    }

    private static void valuesAtFirst() {
        BENCH.sentence("with NEXT and POLLED (T at first), TOKENS and TRIES (0 at first), SOLE (no at first);"
            + " state 0 at first.");
        for (int own = 0; own <= 15; own++) {
            BENCH.due("state() of station " + own, new Station(own, 15).state(), 136 * own);
        }
        Station x = Bench.polling(3, 5);
        x.quiet(40);
        BENCH.dueState("the last but one is polled", x, 6, 3, 0);
        x.quiet(40);
        BENCH.dueState("the last is polled", x, 6, 3, 2);
        BENCH.due("uses of the first token", Bench.uses(x), 4);
    }

    private static void polled(String what, Station x, int own, int polled) {
        BENCH.dueBytes(what, Bench.lastSent(x), Bench.frame(1, polled, own));
        BENCH.due(what + ": POLLED", x.state() / 128 % 16, polled);
    }

    private static void doneLooksBehindOwn() {
        BENCH.sentence(WRAP + " 3 DONE: POLLED is T + 1");
        for (int most = 1; most <= 15; most++) {
            polled("the highest of " + most, Bench.polling(most, most), most, 0);
            polled("the last but one of " + most, Bench.polling(most - 1, most), most - 1, most);
        }
    }

    private static void donePollsBehindMost() {
        BENCH.sentence(WRAP + " 3 DONE: POLLED is POLLED + 1");
        Station x = Bench.full(3, 4, 1);
        Bench.hearAll(x, Bench.frame(0, 3, 1));
        polled("first the highest", x, 3, 4);
        x.quiet(20);
        Bench.othersSpeak(x);
        Bench.hearAll(x, Bench.frame(0, 3, 1));
        polled("then 0", x, 3, 0);
        x.quiet(20);
        Bench.othersSpeak(x);
        Bench.hearAll(x, Bench.frame(0, 3, 1));
        BENCH.dueState("then it is done", x, 4, 1, 3);
    }

    private static void doneMeetsNextBehindMost() {
        BENCH.sentence(WRAP + " 3 DONE: POLLED + 1 is not NEXT");
        for (int most = 1; most <= 15; most++) {
            Station x = Bench.full(most, most, 0);
            Bench.hearAll(x, Bench.frame(0, most, 0));
            BENCH.dueBytes("0 is next of the highest", Bench.sentBytes(x), Bench.frame(0, 0, most));
            BENCH.dueState("0 is next of the highest", x, 4, 0, most);
        }
    }

    private static void donePollsBehindMostWhenSole() {
        BENCH.sentence(WRAP + " 3 DONE: POLLED is POLLED + 1");
        Station x = Bench.sole(3, 4);
        polled("the highest", x, 3, 4);
        x.quiet(20);
        polled("then 0", x, 3, 0);
        x.quiet(20);
        polled("then 1", x, 3, 1);
    }

    private static void doneOfSoleBeginsBehindMost() {
        BENCH.sentence(WRAP + " 3 DONE: SOLE: POLLED is NEXT + 1");
        for (int most = 1; most <= 15; most++) {
            polled("the highest is sole", Bench.sole(most, most), most, 0);
            polled("the last but one is sole", Bench.sole(most - 1, most), most - 1, most);
        }
    }

    private static void passingGivesUpTheHighest() {
        BENCH.sentence(WRAP + " 4 PASSING: POLLED is NEXT + 1");
        for (int most = 2; most <= 15; most++) {
            Station x = Bench.passing(1, most, most);
            x.quiet(40);
            polled("the highest does not take it", x, 1, 0);
            Station y = Bench.passing(0, most, most - 1);
            y.quiet(40);
            polled("the last but one does not take it", y, 0, most);
        }
        Station z = Bench.passing(0, 7, 7);
        z.quiet(40);
        polled("behind the highest is the station itself", z, 0, 0);
        z.quiet(20);
        polled("it goes on behind itself", z, 0, 1);
    }

    private static void lostLooksBehindOwn() {
        BENCH.sentence(WRAP + " 5 LOST: POLLED is T + 1");
        for (int most = 1; most <= 15; most++) {
            Station x = new Station(most, most);
            Bench.rest(x, 500 + 10 * most);
            polled("the highest of " + most, x, most, 0);
            Station y = new Station(most - 1, most);
            Bench.rest(y, 490 + 10 * most);
            polled("the last but one of " + most, y, most - 1, most);
        }
    }

    private static void pollingGoesOnBehindMost() {
        BENCH.sentence(WRAP + " 6 POLLING: POLLED is POLLED + 1");
        for (int most = 3; most <= 15; most++) {
            Station x = Bench.polling(most - 1, most);
            polled("the highest", x, most - 1, most);
            x.quiet(20);
            polled("then 0", x, most - 1, 0);
            x.quiet(20);
            polled("then 1", x, most - 1, 1);
        }
    }

    private static void pollingMeetsOwnBehindMost() {
        BENCH.sentence(WRAP + " 6 POLLING: POLLED + 1 is not T");
        for (int most = 1; most <= 15; most++) {
            Station x = Bench.polling(0, most);
            Bench.rest(x, 20 * most - 1);
            polledLast(x, most);
            x.quiet(1);
            BENCH.due("nobody is left behind the highest", x.state(), SOLE + 6 + 128);
        }
    }

    private static void polledLast(Station x, int most) {
        BENCH.due("the highest is polled last", x.state(), 6 + 128 * most);
    }

    private static void onlyTwoStations() {
        BENCH.sentence("M is 1 .. 15.");
        for (int own = 0; own <= 1; own++) {
            Station x = Bench.polling(own, 1);
            polled("the other", x, own, 1 - own);
            x.quiet(20);
            BENCH.due("it is sole and polls again", x.state(), SOLE + 6 + 8 * own + 128 * (1 - own));
            Bench.hearAll(x, Bench.frame(2, own, 1 - own));
            BENCH.due("the other is found", x.state(), 4 + 8 * (1 - own) + 128 * own);
            x.quiet(40);
            polled("the other does not take it: the station itself", x, own, own);
            x.quiet(20);
            polled("then the other", x, own, 1 - own);
        }
    }
}
