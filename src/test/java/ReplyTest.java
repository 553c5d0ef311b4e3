/** Promises 6 and 7: replied and reply. */
public final class ReplyTest {
    private static final Bench BENCH = new Bench("ReplyTest");

    public static void main(String[] args) {
        aReply();
        latestReply();
        whatIsNoReply();
        BENCH.end();
    }

    private static void aReply() {
        Station x = Bench.waiting(3, 7, 5);
        BENCH.due("replied() before", x.replied(), 0);
        BENCH.due("reply(0) before", x.reply(0), -1);
        BENCH.due("token passed upon the reply", Bench.hearAll(x, Bench.frame(6, 3, 6, 10, 0, 255)), 8);
        BENCH.due("replied()", x.replied(), 3);
        BENCH.due("reply(0)", x.reply(0), 10);
        BENCH.due("reply(1)", x.reply(1), 0);
        BENCH.due("reply(2)", x.reply(2), 255);
        BENCH.due("reply(3)", x.reply(3), -1);
        BENCH.due("reply(-1)", x.reply(-1), -1);
        BENCH.due("reply(lowest)", x.reply(Integer.MIN_VALUE), -1);
        BENCH.due("reply(highest)", x.reply(Integer.MAX_VALUE), -1);
    }

    private static void askAgain(Station x) {
        Bench.hearAll(x, 1, 2, 3, 4, 5);
        x.ask(5, 8, 2, 1, 85);
        Bench.hearAll(x, Bench.frame(0, 3, 5));
    }

    private static void latestReply() {
        Station x = Bench.waiting(3, 7, 5);
        Bench.hearAll(x, Bench.frame(6, 3, 5, 1, 2, 3, 4));
        Bench.hearAll(x, Bench.frame(6, 3, 5, 9, 9));
        BENCH.dueBytes("one that nobody waits for", Bench.replyBytes(x), 1, 2, 3, 4);
        Bench.hearAll(x, Bench.frame(3, 3, 5, 9, 9));
        BENCH.dueBytes("other data", Bench.replyBytes(x), 1, 2, 3, 4);
        askAgain(x);
        BENCH.dueBytes("while the next is waited for", Bench.replyBytes(x), 1, 2, 3, 4);
        Bench.hearAll(x, Bench.frame(6, 3, 5, 7));
        BENCH.dueBytes("the next", Bench.replyBytes(x), 7);
        askAgain(x);
        Bench.hearAll(x, Bench.frame(6, 3, 5));
        BENCH.due("replied() of one without data", x.replied(), 0);
        BENCH.due("reply(0) of one without data", x.reply(0), -1);
    }

    private static void whatIsNoReply() {
        int[][] others = {
            Bench.frame(6, 255, 5, 1), Bench.frame(6, 2, 5, 1), Bench.frame(4, 3, 5, 1),
            Bench.frame(7, 3, 5, 1), Bench.frame(5, 3, 5, 1), Bench.frame(0, 3, 5, 1),
        };
        for (int[] frame : others) {
            Station x = Bench.waiting(3, 7, 5);
            Bench.hearAll(x, frame);
            BENCH.due("replied() behind type " + frame[2] + " to " + frame[3], x.replied(), 0);
        }
    }
}
