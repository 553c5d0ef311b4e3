/** Promise 1: a new object. */
public final class NewObjectTest {
    private static final Bench BENCH = new Bench("NewObjectTest");

    public static void main(String[] args) {
        station(3, 7, 3);
        station(0, 1, 0);
        station(-1, 7, 0);
        station(Integer.MIN_VALUE, 7, 0);
        station(8, 7, 7);
        station(7, 7, 7);
        station(15, 15, 15);
        station(16, 16, 15);
        station(Integer.MAX_VALUE, Integer.MAX_VALUE, 15);
        station(5, 0, 1);
        station(5, Integer.MIN_VALUE, 1);
        most(3, 7, 7);
        most(0, 0, 1);
        most(0, -9, 1);
        most(0, 1, 1);
        most(0, 2, 2);
        most(0, 15, 15);
        most(0, 16, 15);
        most(0, Integer.MAX_VALUE, 15);
        firstAnswers();
        BENCH.end();
    }

    private static void station(int station, int most, int own) {
        Station x = new Station(station, most);
        BENCH.due("state() of " + station + " of " + most, x.state(), 136 * own);
    }

    /** The highest station is the highest that can be asked. */
    private static void most(int station, int most, int highest) {
        Station x = new Station(station, most);
        String call = "ask of station ";
        BENCH.due(call + highest, x.ask(highest, 0, 0, 0, 0), true);
        BENCH.due(call + (highest + 1), x.ask(highest + 1, 0, 0, 0, 0), false);
    }

    private static void firstAnswers() {
        Station x = new Station(2, 4);
        BENCH.due("BAD", PassedToken.BAD, -1);
        BENCH.due("silence()", x.silence(), 0);
        BENCH.due("replied()", x.replied(), 0);
        BENCH.due("reply(0)", x.reply(0), -1);
        BENCH.due("sent(0)", x.sent(0), -1);
        for (int thing = 0; thing < 4; thing++) {
            BENCH.due("present(" + thing + ")", x.present(thing), 0);
        }
    }
}
