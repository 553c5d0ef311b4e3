/** Promise 8: state, with the lines of every state. */
public final class StateTest {
    private static final Bench BENCH = new Bench("StateTest");
    private static final int[] FIVE = {1, 2, 3, 4, 5};

    public static void main(String[] args) {
        idle();
        waiting();
        doneWithOthers();
        passing();
        lost();
        pollingIsAnswered();
        pollingIsNotAnswered();
        sole();
        soleNoMore();
        BENCH.end();
    }

    private static void token(Station x) {
        Bench.hearAll(x, Bench.frame(0, 3, 2));
    }

    private static void idle() {
        Station x = new Station(3, 7);
        token(x);
        BENCH.dueState("a token when nobody is next", x, 6, 3, 4);
        BENCH.dueBytes("it polls", Bench.sentBytes(x), Bench.frame(1, 4, 3));
        Station y = new Station(7, 7);
        Bench.hearAll(y, Bench.frame(0, 7, 2));
        BENCH.dueState("behind the highest comes 0", y, 6, 7, 0);
        Station z = new Station(3, 7);
        Bench.rest(z, 498);
        z.hear(1);
        Bench.rest(z, 499);
        BENCH.dueNumber("a byte among the ticks", z, 0);
    }

    private static void waiting() {
        afterWaiting("a reply", Bench.frame(6, 3, 5, 1), 4);
        afterWaiting("an echo", Bench.frame(4, 3, 5), 4);
        afterWaiting("later", Bench.frame(7, 3, 5), 4);
        afterWaiting("a token", Bench.frame(0, 3, 5), 0);
        afterWaiting("a poll", Bench.frame(1, 3, 5), 0);
        afterWaiting("a type 2", Bench.frame(2, 3, 5), 0);
        afterWaiting("a request", Bench.frame(5, 3, 5, 1, 4, 0, 4, 1, 99), 0);
        afterWaiting("a type 8", Bench.frame(8, 3, 5), 0);
        afterWaiting("a reply to all", Bench.frame(6, 255, 5, 1), 0);
        afterWaiting("an echo to all", Bench.frame(4, 255, 5), 0);
        afterWaiting("a reply to another", Bench.frame(6, 4, 5, 1), 2);
        afterWaiting("bytes alone", new int[] {1, 2, 3, 4, 5, 6}, 2);
        Station x = Bench.waiting(3, 7, 5);
        BENCH.due("254 ticks", Bench.rest(x, 254), 0);
        BENCH.dueNumber("254 ticks", x, 2);
        BENCH.due("255 ticks", x.quiet(1), 8);
        BENCH.dueState("255 ticks", x, 4, 5, 3);
        Station y = Bench.waiting(3, 7, 5);
        Bench.hearAll(y, 85, 255);
        BENCH.due("a cut off frame", y.quiet(4), 8);
    }

    private static void afterWaiting(String what, int[] frame, int state) {
        Station x = Bench.waiting(3, 7, 5);
        BENCH.due("sent upon " + what, Bench.hearAll(x, frame), state == 4 ? 8 : 0);
        BENCH.dueState(what + " while waiting", x, state, 5, 3);
    }

    /** Three tokens are passed on between polls; each poll looks one further, then begins again. */
    private static void doneWithOthers() {
        Station x = Bench.idle(3, 7, 6);
        for (int i = 0; i < 3; i++) {
            token(x);
            BENCH.dueBytes("token " + i, Bench.sentBytes(x), Bench.frame(0, 6, 3));
            BENCH.dueState("token " + i, x, 4, 6, 3);
            Bench.hearAll(x, FIVE);
        }
        for (int polled = 4; polled <= 5; polled++) {
            token(x);
            BENCH.dueBytes("poll of " + polled, Bench.sentBytes(x), Bench.frame(1, polled, 3));
            BENCH.dueState("poll of " + polled, x, 6, 6, polled);
            x.quiet(20);
            BENCH.dueBytes("passed behind the poll", Bench.sentBytes(x), Bench.frame(0, 6, 3));
            BENCH.dueState("passed behind the poll", x, 4, 6, polled);
            Bench.hearAll(x, FIVE);
        }
        token(x);
        BENCH.dueState("nobody left between", x, 4, 6, 3);
        for (int i = 0; i < 2; i++) {
            Bench.hearAll(x, FIVE);
            token(x);
            BENCH.dueState("token 2 or 3 of the next turn", x, 4, 6, 3);
        }
        Bench.hearAll(x, FIVE);
        token(x);
        BENCH.dueState("the turn's first poll", x, 6, 6, 4);
    }

    private static void passing() {
        Station x = Bench.passing(3, 7, 7);
        BENCH.dueBytes("passed", Bench.sentBytes(x), Bench.frame(0, 7, 3));
        BENCH.dueState("passed", x, 4, 7, 3);
        Bench.hearAll(x, 1, 2, 3, 4);
        BENCH.dueNumber("4 bytes", x, 4);
        x.hear(5);
        BENCH.dueState("5 bytes", x, 0, 7, 3);
        Station y = Bench.passing(3, 7, 7);
        Bench.hearAll(y, 1, 2, 3, 4);
        BENCH.due("19 ticks", y.quiet(19), 0);
        BENCH.due("20 ticks", y.quiet(1), 8);
        BENCH.dueBytes("passed again", Bench.sentBytes(y), Bench.frame(0, 7, 3));
        Bench.hearAll(y, 1, 2, 3, 4);
        BENCH.dueState("4 bytes since", y, 4, 7, 3);
        y.quiet(20);
        BENCH.dueBytes("given up", Bench.sentBytes(y), Bench.frame(1, 0, 3));
        BENCH.dueState("given up", y, 6, 3, 0);
        Station z = Bench.passing(3, 7, 5);
        z.quiet(20);
        Bench.hearAll(z, FIVE);
        token(z);
        BENCH.due("two tries again", z.quiet(20), 8);
        BENCH.dueState("two tries again", z, 4, 5, 3);
    }

    private static void lost() {
        Station x = Bench.idle(3, 7, 5);
        Bench.rest(x, 500);
        BENCH.dueState("lost", x, 5, 5, 3);
        Bench.hearAll(x, 1, 2, 3, 4);
        BENCH.dueState("4 bytes", x, 5, 5, 3);
        Bench.rest(x, 529);
        BENCH.dueState("529 ticks", x, 5, 5, 3);
        Station y = Bench.idle(3, 7, 5);
        Bench.rest(y, 530);
        BENCH.dueState("530 ticks", y, 6, 3, 4);
        x.hear(5);
        BENCH.dueState("5 bytes", x, 0, 5, 3);
        Station z = new Station(3, 7);
        Bench.rest(z, 500);
        BENCH.due("a frame while lost", Bench.hearAll(z, Bench.frame(1, 3, 5)), 8);
        BENCH.dueNumber("a frame while lost", z, 0);
        forgetsTokens();
    }

    /** TOKENS is 0 when the token is made anew or given up, so a sole one has all its uses. */
    private static void forgetsTokens() {
        Station x = Bench.idle(3, 4, 0);
        token(x);
        Bench.hearAll(x, FIVE);
        token(x);
        Bench.hearAll(x, FIVE);
        Bench.rest(x, 530);
        x.quiet(60);
        BENCH.due("uses of a token made anew", Bench.uses(x), 4);
        Station y = Bench.idle(3, 4, 4);
        token(y);
        Bench.hearAll(y, FIVE);
        token(y);
        y.quiet(40);
        BENCH.dueState("given up", y, 6, 3, 0);
        y.quiet(40);
        BENCH.due("uses of a token given up", Bench.uses(y), 4);
        Station z = Bench.idle(3, 4, 0);
        token(z);
        Bench.hearAll(z, FIVE);
        Bench.rest(z, 530);
        Bench.hearAll(z, Bench.frame(2, 3, 1));
        for (int i = 0; i < 3; i++) {
            Bench.hearAll(z, FIVE);
            token(z);
            BENCH.dueState("tokens for one that is found", z, 4, 1, 3);
        }
    }

    private static void pollingIsAnswered() {
        for (int from = 0; from <= 8; from++) {
            Station x = Bench.polling(3, 7);
            Bench.hearAll(x, Bench.frame(2, 3, from));
            if (from == 3 || from == 8) {
                BENCH.dueState("from " + from, x, 0, 3, 4);
            } else {
                BENCH.dueState("from " + from, x, 4, from, 3);
                BENCH.dueBytes("from " + from, Bench.sentBytes(x), Bench.frame(0, from, 3));
            }
        }
        int[][] others = {
            Bench.frame(2, 255, 5), Bench.frame(0, 3, 5), Bench.frame(1, 3, 5), Bench.frame(6, 3, 5, 1),
            Bench.frame(5, 3, 5, 1, 4, 0, 4, 1, 99), Bench.frame(9, 255, 255),
        };
        for (int[] frame : others) {
            Station x = Bench.polling(3, 7);
            BENCH.due("sent upon another frame", Bench.hearAll(x, frame), 0);
            BENCH.dueState("another frame", x, 0, 3, 4);
        }
    }

    private static void pollingIsNotAnswered() {
        Station x = Bench.polling(3, 4);
        BENCH.due("19 ticks", x.quiet(19), 0);
        BENCH.due("20 ticks", x.quiet(1), 8);
        BENCH.dueState("the next is polled", x, 6, 3, 0);
        Bench.hearAll(x, Bench.spoilt(Bench.frame(2, 3, 5), 7));
        BENCH.dueState("an invalid one", x, 6, 3, 1);
        x.quiet(20);
        BENCH.dueState("the last is polled", x, 6, 3, 2);
        BENCH.due("not sole yet", x.state() & 2048, 0);
        BENCH.due("nobody is left", x.quiet(20), 8);
        BENCH.due("sole", x.state() & 2048, 2048);
    }

    /** Between polls a sole one uses the token once; three times when a turn begins, four at first. */
    private static void sole() {
        Station x = Bench.sole(3, 7);
        BENCH.due("state() of a sole one", x.state(), 2048 + 6 + 8 * 3 + 128 * 4);
        Station y = Bench.polling(3, 4);
        Bench.rest(y, 60);
        BENCH.due("uses at first", Bench.uses(y), 4);
        int[] turn = {4, 3, 0, 1, 1, 1, 2, 1, 4, 3, 0, 1};
        for (int i = 0; i < turn.length; i += 2) {
            BENCH.dueState("a poll of the turn", y, 6, 3, turn[i]);
            BENCH.dueBytes("a poll of the turn", Bench.sentBytes(y), Bench.frame(1, turn[i], 3));
            BENCH.due("uses behind it", Bench.uses(y), turn[i + 1]);
        }
    }

    private static void soleNoMore() {
        Station x = Bench.sole(3, 7);
        Bench.hearAll(x, Bench.frame(2, 3, 5));
        BENCH.due("found", x.state(), 4 + 8 * 5 + 128 * 3);
        Station y = Bench.sole(3, 7);
        Bench.hearAll(y, Bench.frame(9, 3, 5));
        BENCH.due("another frame leaves it", y.state() & 2055, 2048);
        token(y);
        BENCH.due("a token ends it", y.state(), 6 + 8 * 3 + 128 * 4);
    }
}
