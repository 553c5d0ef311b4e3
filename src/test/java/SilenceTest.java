/** Promise 9: silence. */
public final class SilenceTest {
    private static final Bench BENCH = new Bench("SilenceTest");

    public static void main(String[] args) {
        Station x = new Station(3, 7);
        BENCH.due("silence() at first", x.silence(), 0);
        x.quiet(1);
        BENCH.due("silence() behind a tick", x.silence(), 1);
        x.quiet(100);
        BENCH.due("silence() behind 101", x.silence(), 101);
        x.hear(0);
        BENCH.due("silence() behind a byte", x.silence(), 0);
        x.quiet(5);
        x.hear(256);
        x.quiet(101);
        x.ask(1, 0, 0, 0, 0);
        x.set(0, 1, 1, false);
        BENCH.due("silence() behind other calls", x.silence(), 5);
        Bench.hearAll(x, Bench.frame(1, 3, 5));
        BENCH.due("silence() behind a frame that is answered", x.silence(), 0);
        sendingEndsIt();
        longest();
        BENCH.end();
    }

    private static void sendingEndsIt() {
        Station x = Bench.polling(3, 7);
        x.quiet(20);
        BENCH.due("silence() at once behind sending", x.silence(), 0);
        x.quiet(23);
        BENCH.due("silence() 3 ticks behind sending", x.silence(), 3);
    }

    private static void longest() {
        Station x = new Station(15, 15);
        Bench.rest(x, 649);
        BENCH.due("silence() behind 649", x.silence(), 649);
        x.quiet(1);
        BENCH.due("silence() behind 650", x.silence(), 0);
    }
}
