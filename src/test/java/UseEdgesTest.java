/** "Terms": the edges of the states 0 IDLE, 1 USE and 2 WAIT. */
public final class UseEdgesTest {
    private static final Bench BENCH = new Bench("UseEdgesTest");
    private static final int[] TOKEN = Bench.frame(0, 3, 5);
    private static final int SOLE = 2048;
    private static final int WAITS = 4096;

    public static void main(String[] args) {
        idleHearsOnlyToOwn();
        idleTakesTheToken();
        idleIsSoleNoMore();
        idleAnswersPolls();
        idleEchoes();
        idleHasNoAnswer();
        idleOtherTypes();
        idleInvalidFrames();
        idleSilence();
        idleSilenceBeginsAnew();
        useWithRequest();
        useWithoutRequest();
        useSendsOnce();
        waitReplies();
        waitOtherFrames();
        waitFramesToAll();
        waitInvalidFrames();
        waitSilence();
        heardOnlyOnce();
        invalidOnlyOnce();
        asOftenAsOneHolds();
        BENCH.end();
    }

    private static void idleHearsOnlyToOwn() {
        BENCH.sentence("0 IDLE: A frame is heard, to T:");
        int[] types = {0, 1, 3, 5};
        for (int type : types) {
            Station x = new Station(3, 7);
            int[] data = {1, 4, 0, 4, 1, 99};
            BENCH.due("type " + type + " to all", Bench.hearAll(x, Bench.frame(type, 255, 5, data)), 0);
            BENCH.due("state() behind it", x.state(), 3 * 136);
            BENCH.due("type " + type + " to T", Bench.hearAll(x, Bench.frame(type, 3, 5, data)) > 0, true);
        }
    }

    private static void idleTakesTheToken() {
        BENCH.sentence("of type 0: SOLE is no; state 1.");
        int[] froms = {0, 3, 7, 8, 255};
        for (int from : froms) {
            Station x = new Station(3, 7);
            BENCH.due("a token from " + from, Bench.hearAll(x, Bench.frame(0, 3, from)), 8);
            BENCH.dueState("a token from " + from, x, 6, 3, 4);
        }
        Station y = new Station(3, 7);
        BENCH.due("a token with data", Bench.hearAll(y, Bench.frame(0, 3, 5, new int[40])), 8);
        BENCH.dueState("a token with data", y, 6, 3, 4);
    }

    private static void idleIsSoleNoMore() {
        BENCH.sentence("of type 0: SOLE is no; state 1.");
        Station x = Bench.sole(3, 7);
        Bench.hearAll(x, Bench.frame(9, 3, 5));
        BENCH.due("idle and sole", x.state(), SOLE + 8 * 3 + 128 * 4);
        Bench.hearAll(x, Bench.frame(1, 3, 5));
        BENCH.due("a poll leaves it", x.state(), SOLE + 8 * 3 + 128 * 4);
        Bench.hearAll(x, TOKEN);
        BENCH.due("the token ends it", x.state(), 6 + 8 * 3 + 128 * 4);
    }

    private static void idleAnswersPolls() {
        BENCH.sentence("Of type 1: send type 2 to FROM.");
        int[] froms = {0, 3, 15, 16, 254, 255};
        for (int from : froms) {
            Station x = new Station(3, 7);
            BENCH.dueBytes("a poll from " + from, Bench.upon(x, Bench.frame(1, 3, from)), Bench.frame(2, from, 3));
            BENCH.due("state() behind it", x.state(), 3 * 136);
        }
        Station y = new Station(3, 7);
        BENCH.dueBytes("a poll with data", Bench.upon(y, Bench.frame(1, 3, 5, 1, 2)), Bench.frame(2, 5, 3));
    }

    private static void idleEchoes() {
        BENCH.sentence("Of type 3: send type 4 to FROM with its data.");
        Station x = new Station(3, 7);
        BENCH.dueBytes("no data", Bench.upon(x, Bench.frame(3, 3, 255)), Bench.frame(4, 255, 3));
        int[] most = new int[40];
        most[0] = 255;
        most[39] = 85;
        BENCH.dueBytes("40 bytes", Bench.upon(x, Bench.frame(3, 3, 0, most)), Bench.frame(4, 0, 3, most));
        BENCH.dueBytes("none of them is left", Bench.upon(x, Bench.frame(3, 3, 0, 9)), Bench.frame(4, 0, 3, 9));
        BENCH.dueBytes("nor of these", Bench.upon(x, Bench.frame(3, 3, 0)), Bench.frame(4, 0, 3));
        BENCH.due("state() behind these", x.state(), 3 * 136);
    }

    private static void idleHasNoAnswer() {
        BENCH.sentence("Of type 5: send type 6 to FROM with THE ANSWER to its data, if there is one.");
        Station x = new Station(3, 7);
        BENCH.due("no data", Bench.hearAll(x, Bench.frame(5, 3, 5)), 0);
        BENCH.due("data that have none", Bench.hearAll(x, Bench.frame(5, 3, 5, 0, 0, 0, 0, 0, 0)), 0);
        x.quiet(7);
        BENCH.due("nothing was sent, so the silence goes on", x.silence(), 7);
        BENCH.dueBytes("data that have one", Bench.upon(x, Bench.frame(5, 3, 255, 1, 4, 0, 0, 8, 0)),
            Bench.frame(6, 255, 3, 1, 0, 96, 8, 9));
        BENCH.due("state() behind these", x.state(), 3 * 136);
    }

    private static void idleOtherTypes() {
        BENCH.sentence("0 IDLE: A frame is heard, to T: of type 0");
        for (int type = 0; type <= 255; type++) {
            if (type > 5 || type == 2 || type == 4) {
                Station x = new Station(3, 7);
                BENCH.due("type " + type, Bench.hearAll(x, Bench.frame(type, 3, 5, 1, 4, 0, 4, 1, 99)), 0);
                BENCH.due("state() behind it", x.state(), 3 * 136);
                BENCH.due("replied() behind it", x.replied(), 0);
            }
        }
    }

    private static void idleInvalidFrames() {
        BENCH.sentence("A frame is INVALID when a check is wrong");
        Station x = new Station(3, 7);
        BENCH.due("a token with a wrong check", Bench.hearAll(x, Bench.spoilt(TOKEN, 7)), 0);
        BENCH.due("state() behind it", x.state(), 3 * 136);
    }

    private static void idleSilence() {
        BENCH.sentence("The silence is 500 or more: EVENTS is 0; state 5.");
        Station x = Bench.idle(3, 7, 5);
        Bench.rest(x, 499);
        BENCH.dueState("499 ticks", x, 0, 5, 3);
        BENCH.due("silence()", x.silence(), 499);
        BENCH.due("500 ticks", x.quiet(1), 0);
        BENCH.dueState("500 ticks", x, 5, 5, 3);
        BENCH.due("silence()", x.silence(), 500);
    }

    private static void idleSilenceBeginsAnew() {
        BENCH.sentence("THE SILENCE is the number of ticks since a byte was heard or sent");
        Station x = new Station(3, 7);
        Bench.rest(x, 499);
        x.hear(0);
        Bench.rest(x, 499);
        BENCH.dueNumber("499 ticks behind a byte", x, 0);
        Bench.hearAll(x, Bench.frame(1, 3, 5));
        Bench.rest(x, 499);
        BENCH.dueNumber("499 ticks behind what was sent", x, 0);
        x.quiet(1);
        BENCH.dueNumber("500 ticks", x, 5);
    }

    private static void useWithRequest() {
        BENCH.sentence("1 USE: A request waits: send it (type 5, to whom it goes); it waits no more; state 2.");
        int[] tos = {0, 2, 4, 7};
        for (int to : tos) {
            Station x = new Station(3, 7);
            x.ask(to, 0, 0, 0, 0);
            BENCH.due("it waits", x.state(), WAITS + 3 * 136);
            BENCH.dueBytes("request to " + to, Bench.upon(x, TOKEN),
                Bench.frame(5, to, 3, 1, 4, 0, 4, 0, 12, 12, 0, 0, 0, 0, 25, 0));
            BENCH.due("it waits no more", x.state(), 2 + 3 * 136);
        }
    }

    private static void useWithoutRequest() {
        BENCH.sentence("Else: state 3.");
        Station x = Bench.idle(3, 7, 5);
        BENCH.dueBytes("no request", Bench.upon(x, TOKEN), Bench.frame(0, 5, 3));
        BENCH.dueState("no request", x, 4, 5, 3);
    }

    private static void useSendsOnce() {
        BENCH.sentence("it waits no more");
        Station x = Bench.waiting(3, 7, 5);
        Bench.hearAll(x, Bench.frame(7, 3, 5));
        Bench.othersSpeak(x);
        BENCH.dueBytes("the next token", Bench.upon(x, TOKEN), Bench.frame(0, 5, 3));
    }

    private static void waitReplies() {
        BENCH.sentence("2 WAIT: A frame is heard: to T and of type 6: its data is THE REPLY; state 3");
        int[] counts = {0, 1, 39, 40};
        for (int n : counts) {
            Station x = Bench.waiting(3, 7, 5);
            int[] data = new int[n];
            for (int i = 0; i < n; i++) {
                data[i] = 255 - i;
            }
            BENCH.due("the token is passed on", Bench.hearAll(x, Bench.frame(6, 3, 200, data)), 8);
            BENCH.dueState("reply of " + n, x, 4, 5, 3);
            BENCH.due("replied()", x.replied(), n);
            BENCH.dueBytes("reply", Bench.replyBytes(x), data);
            BENCH.due("reply(" + n + ")", x.reply(n), -1);
        }
    }

    private static void waitOtherFrames() {
        BENCH.sentence("to T and of type 4 or 7: state 3; else state 0.");
        for (int type = 0; type <= 255; type++) {
            if (type != 6) {
                boolean done = type == 4 || type == 7;
                Station x = Bench.waiting(3, 7, 5);
                int[] frame = Bench.frame(type, 3, 5, 1, 4, 0, 4, 1, 99);
                BENCH.due("sent upon type " + type, Bench.hearAll(x, frame), done ? 8 : 0);
                BENCH.dueState("type " + type, x, done ? 4 : 0, 5, 3);
                BENCH.due("replied() behind type " + type, x.replied(), 0);
            }
        }
    }

    private static void waitFramesToAll() {
        BENCH.sentence("to T and of type 4 or 7: state 3; else state 0.");
        for (int type = 0; type <= 8; type++) {
            Station x = Bench.waiting(3, 7, 5);
            BENCH.due("sent upon type " + type + " to all", Bench.hearAll(x, Bench.frame(type, 255, 5, 1)), 0);
            BENCH.dueState("type " + type + " to all", x, 0, 5, 3);
            BENCH.due("replied() behind it", x.replied(), 0);
            Station y = Bench.waiting(3, 7, 5);
            Bench.hearAll(y, Bench.frame(type, 4, 5, 1));
            BENCH.dueState("type " + type + " to another", y, 2, 5, 3);
        }
    }

    private static void waitInvalidFrames() {
        BENCH.sentence("A frame is invalid, or the silence is 255 or more: state 3.");
        int[] reply = Bench.frame(6, 3, 5, 1, 2, 3);
        int[][] wrong = {
            Bench.spoilt(Bench.header(6, 3, 5, 3), 7), Bench.spoilt(reply, 12), Bench.header(6, 3, 5, 41),
        };
        for (int[] frame : wrong) {
            Station x = Bench.waiting(3, 7, 5);
            Bench.hearAll(x, frame);
            BENCH.dueState("an invalid reply", x, 4, 5, 3);
            BENCH.due("replied() behind it", x.replied(), 0);
        }
        Station y = Bench.waiting(3, 7, 5);
        Bench.hearAll(y, Bench.first(reply, 12));
        BENCH.due("3 ticks", y.quiet(3), 0);
        BENCH.dueState("3 ticks", y, 2, 5, 3);
        BENCH.due("4 ticks", y.quiet(1), 8);
        BENCH.dueState("4 ticks", y, 4, 5, 3);
    }

    private static void waitSilence() {
        BENCH.sentence("the silence is 255 or more: state 3.");
        Station x = Bench.waiting(3, 7, 5);
        BENCH.due("254 ticks", Bench.rest(x, 254), 0);
        BENCH.dueState("254 ticks", x, 2, 5, 3);
        x.hear(0);
        BENCH.due("254 ticks behind a byte", Bench.rest(x, 254), 0);
        BENCH.dueState("254 ticks behind a byte", x, 2, 5, 3);
        BENCH.due("255 ticks", x.quiet(1), 8);
        BENCH.dueState("255 ticks", x, 4, 5, 3);
    }

    private static void heardOnlyOnce() {
        BENCH.sentence("but now no frame is heard or invalid.");
        int[] types = {0, 1, 3, 5};
        int[] data = {1, 4, 0, 4, 1, 99};
        for (int type : types) {
            Station x = Bench.waiting(3, 7, 5);
            BENCH.due("type " + type + " makes it idle, no more", Bench.hearAll(x, Bench.frame(type, 3, 5, data)), 0);
            BENCH.dueState("type " + type + " makes it idle, no more", x, 0, 5, 3);
            BENCH.due("the same once more", Bench.hearAll(x, Bench.frame(type, 3, 5, data)) > 0, true);
        }
    }

    private static void invalidOnlyOnce() {
        BENCH.sentence("but now no frame is heard or invalid.");
        Station x = Bench.full(3, 7, 6);
        x.ask(6, 1, 2, 0, 85);
        Bench.hearAll(x, TOKEN);
        BENCH.dueNumber("it waits", x, 2);
        BENCH.dueBytes("an invalid frame", Bench.upon(x, Bench.spoilt(TOKEN, 7)), Bench.frame(1, 4, 3));
        BENCH.dueState("it polls, and the frame is forgotten", x, 6, 6, 4);
        BENCH.due("19 ticks", x.quiet(19), 0);
    }

    /** From 6 through 1 and 3, as TOKENS goes up to 3, and to 6 again: all with one tick. */
    private static void asOftenAsOneHolds() {
        BENCH.sentence("then, as often as one holds, the first of those of the state that is then");
        Station x = Bench.polling(3, 4);
        x.quiet(79);
        BENCH.due("before the tick", x.state(), 6 + 8 * 3 + 128 * 2);
        BENCH.due("the tick", x.quiet(1), 8);
        BENCH.due("behind the tick", x.state(), SOLE + 6 + 8 * 3 + 128 * 4);
    }
}
