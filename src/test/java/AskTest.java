import java.util.Arrays;

/** Promise 5: ask. */
public final class AskTest {
    private static final Bench BENCH = new Bench("AskTest");

    public static void main(String[] args) {
        requestIsSent();
        laterTakesThePlace();
        refusals();
        edges();
        waitsNoMore();
        BENCH.end();
    }

    private static int[] token(Station x) {
        return Bench.upon(x, Bench.frame(0, 3, 2));
    }

    private static void requestIsSent() {
        Station x = new Station(3, 7);
        BENCH.due("ask", x.ask(5, 77, 2, 1, 85), true);
        BENCH.due("state() while it waits", x.state(), 4096 + 3 * 136);
        BENCH.due("silence() behind ask", x.silence(), 0);
        BENCH.dueBytes("request", token(x), Bench.frame(5, 5, 3, 1, 4, 0, 4, 77, 12, 12, 0, 128, 0, 1, 25, 85));
        BENCH.due("state() when it is sent", x.state(), 2 + 3 * 136);
    }

    private static void laterTakesThePlace() {
        Station x = new Station(3, 7);
        x.ask(5, 77, 2, 1, 85);
        BENCH.due("ask again", x.ask(0, 1, 4, 2, 104), true);
        BENCH.due("refused", x.ask(3, 9, 9, 9, 9), false);
        BENCH.dueBytes("request", token(x), Bench.frame(5, 0, 3, 1, 4, 0, 4, 1, 12, 12, 1, 0, 0, 2, 25, 104));
        BENCH.due("ask while waiting", x.ask(4, 2, 0, 0, 0), true);
        BENCH.due("state() while waiting", x.state(), 4096 + 2 + 3 * 136);
    }

    private static void refusals() {
        int[][] wrong = {
            {-1, 0, 0, 0, 0}, {8, 0, 0, 0, 0}, {3, 0, 0, 0, 0}, {255, 0, 0, 0, 0},
            {5, -1, 0, 0, 0}, {5, 256, 0, 0, 0}, {5, 0, -1, 0, 0}, {5, 0, 1024, 0, 0},
            {5, 0, 0, -1, 0}, {5, 0, 0, 4194304, 0}, {5, 0, 0, 0, -1}, {5, 0, 0, 0, 256},
            {Integer.MIN_VALUE, 0, 0, 0, 0}, {5, Integer.MAX_VALUE, 0, 0, 0},
        };
        for (int[] w : wrong) {
            Station x = new Station(3, 7);
            String call = "ask" + Arrays.toString(w);
            BENCH.due(call, x.ask(w[0], w[1], w[2], w[3], w[4]), false);
            BENCH.due("state() behind " + call, x.state(), 3 * 136);
            BENCH.dueBytes("token behind " + call, token(x), Bench.frame(1, 4, 3));
        }
    }

    private static void edges() {
        Station x = new Station(3, 7);
        BENCH.due("all highest", x.ask(7, 255, 1023, 4194303, 255), true);
        BENCH.dueBytes("all highest", token(x),
            Bench.frame(5, 7, 3, 1, 4, 0, 4, 255, 12, 12, 255, 255, 255, 255, 25, 255));
        Station y = new Station(3, 7);
        BENCH.due("all lowest", y.ask(0, 0, 0, 0, 0), true);
        BENCH.dueBytes("all lowest", token(y), Bench.frame(5, 0, 3, 1, 4, 0, 4, 0, 12, 12, 0, 0, 0, 0, 25, 0));
    }

    private static void waitsNoMore() {
        Station x = Bench.waiting(3, 7, 5);
        Bench.rest(x, 255);
        BENCH.dueBytes("it is not asked again", Bench.sentBytes(x), Bench.frame(0, 5, 3));
        Bench.hearAll(x, 1, 2, 3, 4, 5);
        BENCH.dueBytes("nor with the next token", token(x), Bench.frame(0, 5, 3));
    }
}
