/** Promise 3: quiet. */
public final class QuietTest {
    private static final Bench BENCH = new Bench("QuietTest");

    public static void main(String[] args) {
        wrongNumbers();
        lostTokens();
        oneAfterTheOther();
        cutOffFrames();
        cutOffOnlyOnce();
        BENCH.end();
    }

    private static void wrongNumbers() {
        Station x = new Station(3, 7);
        Bench.hearAll(x, Bench.frame(1, 3, 5));
        x.quiet(1);
        int[] wrong = {0, 101, -1, Integer.MIN_VALUE, Integer.MAX_VALUE};
        for (int n : wrong) {
            BENCH.due("quiet(" + n + ")", x.quiet(n), -1);
        }
        BENCH.due("silence behind BAD", x.silence(), 1);
        BENCH.due("quiet(100)", x.quiet(100), 0);
        BENCH.due("silence behind 101 ticks", x.silence(), 101);
    }

    private static void lostTokens() {
        for (int station = 0; station <= 15; station++) {
            Station x = new Station(station, 15);
            BENCH.due("ticks before the token is lost", Bench.rest(x, 499), 0);
            BENCH.dueNumber("499 ticks", x, 0);
            if (station > 0) {
                BENCH.due("tick 500", x.quiet(1), 0);
                BENCH.dueNumber("500 ticks", x, 5);
                BENCH.due("ticks of its own", Bench.rest(x, 10 * station - 1), 0);
            }
            BENCH.due("the tick that makes it anew", x.quiet(1), 8);
            int behind = station == 15 ? 0 : station + 1;
            BENCH.dueBytes("it polls", Bench.sentBytes(x), Bench.frame(1, behind, station));
            BENCH.dueState("it polls", x, 6, station, behind);
        }
    }

    private static void oneAfterTheOther() {
        Station x = Bench.polling(3, 15);
        BENCH.due("19 ticks", x.quiet(19), 0);
        BENCH.due("100 ticks", x.quiet(100), 40);
        BENCH.dueBytes("five polls", Bench.sentBytes(x), Bench.join(Bench.frame(1, 5, 3), Bench.frame(1, 6, 3),
            Bench.frame(1, 7, 3), Bench.frame(1, 8, 3), Bench.frame(1, 9, 3)));
        BENCH.due("silence since the last", x.silence(), 19);
    }

    private static void cutOffFrames() {
        int[] frame = Bench.frame(2, 3, 5, 9, 8);
        for (int heard = 2; heard < frame.length; heard++) {
            Station x = Bench.polling(3, 7);
            Bench.hearAll(x, Bench.first(frame, heard));
            BENCH.due("3 ticks behind byte " + heard, x.quiet(3), 0);
            BENCH.due("4 ticks behind byte " + heard, x.quiet(1), 8);
            BENCH.dueState("cut off behind byte " + heard, x, 6, 3, 5);
        }
        Station y = Bench.polling(3, 7);
        y.hear(85);
        BENCH.due("19 ticks behind 85 alone", y.quiet(19), 0);
        Station z = Bench.polling(3, 7);
        Bench.hearAll(z, Bench.frame(2, 2, 5));
        BENCH.due("19 ticks behind a whole frame", z.quiet(19), 0);
        Station w = Bench.polling(3, 7);
        for (int b : frame) {
            w.quiet(3);
            w.hear(b);
        }
        BENCH.dueState("3 ticks between all bytes", w, 4, 5, 3);
    }

    private static void cutOffOnlyOnce() {
        Station x = new Station(3, 7);
        int[] poll = Bench.frame(1, 3, 5);
        Bench.hearAll(x, Bench.first(poll, 7));
        x.quiet(4);
        BENCH.due("the rest of a cut off frame", x.hear(poll[7]), 0);
        BENCH.due("a frame behind it", Bench.hearAll(x, poll), 8);
    }
}
