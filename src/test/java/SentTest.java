/** Promise 4: sent. */
public final class SentTest {
    private static final Bench BENCH = new Bench("SentTest");

    public static void main(String[] args) {
        Station x = new Station(3, 7);
        BENCH.due("sent(0) of a new object", x.sent(0), -1);
        Bench.hearAll(x, Bench.frame(1, 3, 5));
        int[] want = {85, 255, 2, 5, 3, 0, 0, Bench.headerCheck(2, 5, 3, 0, 0)};
        for (int i = 0; i < 8; i++) {
            BENCH.due("sent(" + i + ")", x.sent(i), want[i]);
        }
        BENCH.due("sent(-1)", x.sent(-1), -1);
        BENCH.due("sent(8)", x.sent(8), -1);
        BENCH.due("sent(lowest)", x.sent(Integer.MIN_VALUE), -1);
        BENCH.due("sent(highest)", x.sent(Integer.MAX_VALUE), -1);
        othersLeaveIt(x, want);
        x.quiet(1);
        BENCH.due("sent(0) behind a tick", x.sent(0), -1);
        Bench.hearAll(x, Bench.frame(1, 3, 5));
        BENCH.due("sent(0) behind a poll", x.sent(0), 85);
        x.hear(0);
        BENCH.due("sent(0) behind a byte", x.sent(0), -1);
        BENCH.end();
    }

    private static void othersLeaveIt(Station x, int[] want) {
        x.hear(256);
        x.hear(-1);
        x.quiet(0);
        x.quiet(101);
        x.ask(5, 1, 2, 0, 85);
        x.set(0, 1, 9, false);
        x.state();
        x.silence();
        x.replied();
        x.reply(0);
        x.present(0);
        BENCH.dueBytes("sent() behind other calls", Bench.sentBytes(x), want);
    }
}
