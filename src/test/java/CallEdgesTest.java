/** Promises 2 to 9: the edges of what a call is given, and calls that are refused. */
public final class CallEdgesTest {
    private static final Bench BENCH = new Bench("CallEdgesTest");
    private static final int LOWEST = Integer.MIN_VALUE;
    private static final int HIGHEST = Integer.MAX_VALUE;

    public static void main(String[] args) {
        bytesThatAreNone();
        bytesThatAreNoneChangeNothing();
        ticksThatAreNone();
        ticksThatAreNoneChangeNothing();
        manyTicks();
        sentBeforeAnything();
        sentBeyondTheEnds();
        sentOfTheLatestCall();
        sentBehindBadCalls();
        askInPlaceOfAnother();
        askWrongStations();
        askEveryStation();
        askWrongNumbers();
        askLargestNumbers();
        askRefusedLeavesTheOther();
        repliedBeforeAny();
        repliedOfOneWithoutData();
        replyBeyondTheEnds();
        stateOfAll();
        silenceLongest();
        lastOfAllCalls();
        BENCH.end();
    }

    private static void bytesThatAreNone() {
        BENCH.sentence("BAD when b is not 0 .. 255.");
        int[] wrong = {LOWEST, -256, -171, -1, 256, 341, 511, HIGHEST};
        Station x = new Station(3, 7);
        for (int b : wrong) {
            BENCH.due("hear(" + b + ")", x.hear(b), -1);
        }
        BENCH.due("hear(0)", x.hear(0), 0);
        BENCH.due("hear(255)", x.hear(255), 0);
    }

    private static void bytesThatAreNoneChangeNothing() {
        BENCH.sentence("BAD when b is not 0 .. 255.");
        int[] poll = Bench.frame(1, 3, 5);
        Station x = new Station(3, 7);
        for (int i = 0; i < 7; i++) {
            x.hear(poll[i]);
            x.hear(-1);
            x.hear(256);
        }
        x.quiet(3);
        x.hear(256);
        BENCH.due("the silence goes on", x.silence(), 3);
        BENCH.due("the frame goes on", x.hear(poll[7]), 8);
    }

    private static void ticksThatAreNone() {
        BENCH.sentence("BAD when n is not 1 .. 100.");
        int[] wrong = {LOWEST, -100, -1, 0, 101, 102, HIGHEST};
        for (int n : wrong) {
            BENCH.due("quiet(" + n + ")", new Station(3, 7).quiet(n), -1);
        }
        Station x = new Station(3, 7);
        BENCH.due("quiet(1)", x.quiet(1), 0);
        BENCH.due("silence() behind quiet(1)", x.silence(), 1);
        BENCH.due("quiet(100)", x.quiet(100), 0);
        BENCH.due("silence() behind quiet(100)", x.silence(), 101);
    }

    private static void ticksThatAreNoneChangeNothing() {
        BENCH.sentence("BAD when n is not 1 .. 100.");
        Station x = Bench.polling(3, 7);
        x.quiet(19);
        x.quiet(0);
        x.quiet(101);
        x.quiet(-1);
        BENCH.due("the silence", x.silence(), 19);
        BENCH.dueState("the state", x, 6, 3, 4);
        BENCH.due("the tick that is due", x.quiet(1), 8);
    }

    private static void manyTicks() {
        BENCH.sentence("n ticks go by, one after the other: how many bytes are sent in all of them.");
        Station x = Bench.polling(3, 15);
        Station y = Bench.polling(3, 15);
        x.quiet(13);
        y.quiet(13);
        int sent = 0;
        for (int i = 0; i < 100; i++) {
            sent += y.quiet(1);
        }
        BENCH.due("100 ticks in one call", x.quiet(100), sent);
        BENCH.due("five polls", sent, 40);
        BENCH.due("state()", x.state(), y.state());
        BENCH.due("silence()", x.silence(), y.silence());
        BENCH.dueBytes("all of them are told", Bench.sentBytes(x), Bench.join(Bench.frame(1, 5, 3),
            Bench.frame(1, 6, 3), Bench.frame(1, 7, 3), Bench.frame(1, 8, 3), Bench.frame(1, 9, 3)));
    }

    private static void sentBeforeAnything() {
        BENCH.sentence("BAD when there is none.");
        Station x = new Station(3, 7);
        BENCH.due("sent(0)", x.sent(0), -1);
        BENCH.due("sent(-1)", x.sent(-1), -1);
        x.hear(85);
        BENCH.due("sent(0) when nothing is sent", x.sent(0), -1);
    }

    private static void sentBeyondTheEnds() {
        BENCH.sentence("Byte i of what was sent");
        Station x = new Station(3, 7);
        Bench.hearAll(x, Bench.frame(3, 3, 5, new int[40]));
        int[] beyond = {LOWEST, -1, 50, 51, 127, 128, HIGHEST};
        for (int i : beyond) {
            BENCH.due("sent(" + i + ")", x.sent(i), -1);
        }
        BENCH.due("sent(0)", x.sent(0), 85);
        BENCH.due("sent(49)", x.sent(49), 100);
    }

    private static void sentOfTheLatestCall() {
        BENCH.sentence("sent in the latest call of hear() or quiet()");
        Station x = new Station(3, 7);
        Bench.hearAll(x, Bench.frame(3, 3, 5, new int[40]));
        Bench.hearAll(x, Bench.frame(1, 3, 5));
        BENCH.due("the last byte of a shorter one", x.sent(7), Bench.headerCheck(2, 5, 3, 0, 0));
        BENCH.due("behind it", x.sent(8), -1);
        x.quiet(1);
        BENCH.due("behind a tick", x.sent(0), -1);
        Bench.hearAll(x, Bench.frame(1, 3, 5));
        x.hear(1);
        BENCH.due("behind a byte", x.sent(0), -1);
    }

    private static void sentBehindBadCalls() {
        BENCH.sentence("that was not BAD");
        Station x = new Station(3, 7);
        int[] here = Bench.upon(x, Bench.frame(1, 3, 5));
        BENCH.due("bytes", here.length, 8);
        int[] wrong = {-1, 256};
        for (int b : wrong) {
            x.hear(b);
            BENCH.dueBytes("behind hear(" + b + ")", Bench.sentBytes(x), here);
        }
        int[] wrongTicks = {0, 101};
        for (int n : wrongTicks) {
            x.quiet(n);
            BENCH.dueBytes("behind quiet(" + n + ")", Bench.sentBytes(x), here);
        }
    }

    private static int[] requestOf(Station x) {
        return Bench.upon(x, Bench.frame(0, 3, 2));
    }

    private static int[] request(int to, int id, int... place) {
        return Bench.frame(5, to, 3, Bench.join(new int[] {1, 4, 0, 4, id, 12, 12}, place));
    }

    private static void askInPlaceOfAnother() {
        BENCH.sentence("A request waits from now on, in place of one that does");
        Station x = new Station(3, 7);
        BENCH.due("the first", x.ask(7, 255, 1023, 4194303, 255), true);
        BENCH.due("the second", x.ask(0, 1, 2, 3, 4), true);
        BENCH.due("one waits", x.state(), 4096 + 3 * 136);
        BENCH.dueBytes("the second is sent", requestOf(x), request(0, 1, 0, 128, 0, 3, 25, 4));
        BENCH.due("none waits", x.state(), 2 + 3 * 136);
    }

    private static void askWrongStations() {
        BENCH.sentence("False, changing nothing, when to is not 0 .. M or is T");
        for (int most = 1; most <= 15; most++) {
            int[] wrong = {LOWEST, -1, most / 2, most + 1, 16, 255, 256, HIGHEST};
            for (int to : wrong) {
                Station x = new Station(most / 2, most);
                BENCH.due("station " + to + " of " + most, x.ask(to, 0, 0, 0, 0), false);
                BENCH.due("nothing waits", x.state(), 136 * (most / 2));
            }
        }
    }

    private static void askEveryStation() {
        BENCH.sentence("when to is not 0 .. M or is T");
        for (int to = 0; to <= 15; to++) {
            Station x = new Station(3, 15);
            BENCH.due("station " + to, x.ask(to, 0, 0, 0, 0), to != 3);
            if (to != 3) {
                BENCH.dueBytes("station " + to, requestOf(x), request(to, 0, 0, 0, 0, 0, 25, 0));
            }
        }
    }

    private static void askWrongNumbers() {
        BENCH.sentence("id or property not 0 .. 255, cls not 0 .. 1023, or number not 0 .. 4194303.");
        int[] edges = {255, 1023, 4194303, 255};
        for (int place = 0; place < edges.length; place++) {
            int[] wrong = {LOWEST, -1, edges[place] + 1, HIGHEST};
            for (int value : wrong) {
                int[] given = {0, 0, 0, 0};
                given[place] = value;
                Station x = new Station(3, 7);
                BENCH.due("value " + value + " in place " + place, ask(x, 5, given), false);
                BENCH.due("nothing waits", x.state(), 3 * 136);
            }
        }
    }

    private static boolean ask(Station x, int to, int[] given) {
        return x.ask(to, given[0], given[1], given[2], given[3]);
    }

    private static void askLargestNumbers() {
        BENCH.sentence("then 12 and the int of class and number, 25 and the property.");
        int[][] all = {
            {0, 0, 0, 0, 0, 0, 0, 0, 0}, {255, 1023, 4194303, 255, 255, 255, 255, 255, 0},
            {1, 1023, 0, 2, 255, 192, 0, 0, 0}, {1, 0, 4194303, 2, 0, 63, 255, 255, 0},
            {1, 512, 0, 2, 128, 0, 0, 0, 0}, {1, 511, 4194303, 2, 127, 255, 255, 255, 0},
            {1, 1, 1, 2, 0, 64, 0, 1, 0}, {1, 0, 255, 2, 0, 0, 0, 255, 0}, {1, 0, 256, 2, 0, 0, 1, 0, 0},
        };
        for (int[] a : all) {
            Station x = new Station(3, 7);
            BENCH.due("class " + a[1] + ", number " + a[2], ask(x, 5, a), true);
            BENCH.dueBytes("class " + a[1] + ", number " + a[2], requestOf(x),
                request(5, a[0], a[4], a[5], a[6], a[7], 25, a[3]));
        }
    }

    private static void askRefusedLeavesTheOther() {
        BENCH.sentence("False, changing nothing");
        int[][] wrong = {
            {3, 9, 9, 9, 9}, {8, 9, 9, 9, 9}, {-1, 9, 9, 9, 9}, {6, 256, 9, 9, 9}, {6, 9, 1024, 9, 9},
            {6, 9, 9, 4194304, 9}, {6, 9, 9, 9, 256},
        };
        for (int[] w : wrong) {
            Station x = new Station(3, 7);
            x.ask(5, 1, 2, 0, 85);
            BENCH.due("ask of " + w[0], x.ask(w[0], w[1], w[2], w[3], w[4]), false);
            BENCH.due("the other waits", x.state(), 4096 + 3 * 136);
            BENCH.dueBytes("the other is sent", requestOf(x), request(5, 1, 0, 128, 0, 0, 25, 85));
        }
    }

    private static void repliedBeforeAny() {
        BENCH.sentence("0 when there was none");
        Station x = new Station(3, 7);
        BENCH.due("replied() of a new one", x.replied(), 0);
        BENCH.due("reply(0) of a new one", x.reply(0), -1);
        Station y = Bench.waiting(3, 7, 5);
        BENCH.due("replied() while waiting", y.replied(), 0);
        Bench.rest(y, 255);
        BENCH.due("replied() when none came", y.replied(), 0);
        BENCH.due("reply(0) when none came", y.reply(0), -1);
    }

    private static void repliedOfOneWithoutData() {
        BENCH.sentence("(or it had none)");
        Station x = Bench.waiting(3, 7, 5);
        Bench.hearAll(x, Bench.frame(6, 3, 5, 1, 2, 3));
        BENCH.due("replied() of three", x.replied(), 3);
        Bench.othersSpeak(x);
        x.ask(5, 1, 2, 0, 85);
        Bench.hearAll(x, Bench.frame(0, 3, 5));
        BENCH.due("the earlier one stays until then", x.replied(), 3);
        Bench.hearAll(x, Bench.frame(6, 3, 5));
        BENCH.due("replied()", x.replied(), 0);
        BENCH.due("reply(0)", x.reply(0), -1);
    }

    private static void replyBeyondTheEnds() {
        BENCH.sentence("Byte i of it; BAD when there is none.");
        Station x = Bench.waiting(3, 7, 5);
        int[] data = new int[40];
        data[0] = 255;
        data[39] = 7;
        Bench.hearAll(x, Bench.frame(6, 3, 5, data));
        int[] beyond = {LOWEST, -1, 40, 41, HIGHEST};
        for (int i : beyond) {
            BENCH.due("reply(" + i + ")", x.reply(i), -1);
        }
        BENCH.due("reply(0)", x.reply(0), 255);
        BENCH.due("reply(39)", x.reply(39), 7);
        Bench.othersSpeak(x);
        x.ask(5, 1, 2, 0, 85);
        Bench.hearAll(x, Bench.frame(0, 3, 5));
        Bench.hearAll(x, Bench.frame(6, 3, 5, 9));
        BENCH.due("reply(0) of a shorter one", x.reply(0), 9);
        BENCH.due("reply(1) of a shorter one", x.reply(1), -1);
    }

    private static void stateOfAll() {
        BENCH.sentence("The state, plus 8 times NEXT, plus 128 times POLLED, plus 2048 if SOLE, plus 4096 if a request waits.");
        BENCH.due("all lowest", new Station(0, 1).state(), 0);
        BENCH.due("NEXT and POLLED highest", new Station(15, 15).state(), 8 * 15 + 128 * 15);
        Station x = Bench.sole(15, 15);
        BENCH.due("SOLE", x.state(), 6 + 8 * 15 + 2048);
        x.ask(14, 0, 0, 0, 0);
        BENCH.due("SOLE and a request", x.state(), 6 + 8 * 15 + 2048 + 4096);
        Station y = Bench.passing(15, 15, 0);
        BENCH.due("NEXT lowest, POLLED highest", y.state(), 4 + 128 * 15);
        Station z = Bench.passing(0, 15, 15);
        BENCH.due("NEXT highest, POLLED lowest", z.state(), 4 + 8 * 15);
    }

    /** More than 649 ticks of silence there can't be, as the highest station polls with tick 650. */
    private static void silenceLongest() {
        BENCH.sentence("The silence; 1000 when it is more.");
        Station x = new Station(15, 15);
        int[] ticks = {100, 200, 300, 400, 500, 600};
        for (int n : ticks) {
            x.quiet(100);
            BENCH.due("silence()", x.silence(), n);
        }
        x.quiet(49);
        BENCH.due("silence()", x.silence(), 649);
        x.quiet(1);
        BENCH.due("silence()", x.silence(), 0);
    }

    private static void lastOfAllCalls() {
        BENCH.sentence("An object is used for at most 512 calls after it has been made");
        Station x = new Station(3, 7);
        int[] echo = Bench.frame(3, 3, 5, new int[40]);
        for (int i = 0; i < 10; i++) {
            BENCH.due("echo " + i, Bench.hearAll(x, echo), 50);
        }
        for (int i = 0; i < 11; i++) {
            BENCH.due("quiet(1)", x.quiet(1), 0);
        }
        BENCH.due("calls left", x.callsLeft(), 1);
        BENCH.due("the 512th call", x.silence(), 11);
    }
}
