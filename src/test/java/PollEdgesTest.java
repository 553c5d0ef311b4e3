/** "Terms": the edges of the states 5 LOST and 6 POLLING. */
public final class PollEdgesTest {
    private static final Bench BENCH = new Bench("PollEdgesTest");
    private static final int SOLE = 2048;

    public static void main(String[] args) {
        lostFewEvents();
        lostEventsAreBytes();
        lostSilence();
        lostSilenceBeginsAnew();
        lostForgetsNextAndTokens();
        lostKeepsSole();
        foundBy();
        foundToAll();
        foundByOtherTypes();
        foundWithData();
        foundEndsTurnAndSole();
        invalidFrames();
        silence();
        nobodyWhenSole();
        nobodyWhenNextIsKnown();
        nobodyYet();
        nobodyAtAll();
        invalidWhenSole();
        invalidWhenNextIsKnown();
        invalidFromTheLast();
        BENCH.end();
    }

    private static Station lost() {
        Station x = Bench.idle(3, 7, 5);
        Bench.rest(x, 500);
        return x;
    }

    private static void lostFewEvents() {
        BENCH.sentence("5 LOST: EVENTS is more than 4: state 0.");
        Station x = lost();
        Bench.hearAll(x, 1, 2, 3, 4);
        BENCH.dueState("4 bytes", x, 5, 5, 3);
        x.hear(5);
        BENCH.dueState("5 bytes", x, 0, 5, 3);
    }

    private static void lostEventsAreBytes() {
        BENCH.sentence("5 LOST: EVENTS is more than 4: state 0.");
        Station x = lost();
        Bench.hearAll(x, 1, 2, 3, 4);
        x.hear(-1);
        x.hear(256);
        x.quiet(100);
        BENCH.dueState("4 bytes, and others that are none", x, 5, 5, 3);
        Station y = lost();
        BENCH.dueBytes("a poll is answered, as it is idle by then", Bench.upon(y, Bench.frame(1, 3, 9)),
            Bench.frame(2, 9, 3));
        BENCH.dueState("a poll is answered", y, 0, 5, 3);
    }

    private static void lostSilence() {
        BENCH.sentence("The silence is 500 + 10 T or more: POLLED is T + 1; POLL that");
        for (int own = 0; own <= 15; own++) {
            Station x = new Station(own, 15);
            BENCH.due("a tick too few for " + own, Bench.rest(x, 499 + 10 * own), 0);
            BENCH.due("silence()", x.silence(), 499 + 10 * own);
            BENCH.dueState("a tick too few for " + own, x, own == 0 ? 0 : 5, own, own);
            BENCH.due("500 + 10 times " + own, x.quiet(1), 8);
            BENCH.dueState("500 + 10 times " + own, x, 6, own, own == 15 ? 0 : own + 1);
            BENCH.due("silence()", x.silence(), 0);
        }
    }

    private static void lostSilenceBeginsAnew() {
        BENCH.sentence("The silence is 500 + 10 T or more");
        Station x = lost();
        x.quiet(29);
        x.hear(1);
        BENCH.due("529 ticks behind a byte", Bench.rest(x, 529), 0);
        BENCH.dueState("529 ticks behind a byte", x, 5, 5, 3);
        BENCH.due("530 ticks", x.quiet(1), 8);
        BENCH.dueState("530 ticks", x, 6, 3, 4);
    }

    private static void lostForgetsNextAndTokens() {
        BENCH.sentence("POLL that; NEXT is T; TOKENS is 0; state 6.");
        Station x = Bench.full(3, 4, 0);
        Bench.rest(x, 529);
        BENCH.dueState("NEXT is known", x, 5, 0, 3);
        x.quiet(1);
        BENCH.dueState("NEXT is forgotten", x, 6, 3, 4);
        x.quiet(60);
        BENCH.due("uses when TOKENS is 0", Bench.uses(x), 4);
    }

    private static void lostKeepsSole() {
        BENCH.sentence("The silence is 500 + 10 T or more: POLLED is T + 1; POLL that; NEXT is T; TOKENS is 0; state 6.");
        Station x = Bench.sole(3, 7);
        Bench.hearAll(x, Bench.frame(9, 3, 5));
        Bench.rest(x, 530);
        BENCH.due("it is still sole", x.state(), SOLE + 6 + 8 * 3 + 128 * 4);
        BENCH.due("uses when TOKENS is 0", Bench.uses(x), 4);
        BENCH.due("it polls on", x.state() & 4095, SOLE + 6 + 8 * 3 + 128 * 5);
    }

    private static void foundBy() {
        BENCH.sentence("of type 2, and FROM is 0 .. M, but not T");
        for (int most = 1; most <= 15; most += 7) {
            for (int from = 0; from <= 255; from++) {
                Station x = Bench.polling(1, most);
                int polled = most == 1 ? 0 : 2;
                boolean found = from <= most && from != 1;
                BENCH.due("from " + from, Bench.hearAll(x, Bench.frame(2, 1, from)), found ? 8 : 0);
                if (found) {
                    BENCH.dueState("from " + from, x, 4, from, 1);
                    BENCH.dueBytes("from " + from, Bench.sentBytes(x), Bench.frame(0, from, 1));
                } else {
                    BENCH.dueState("from " + from, x, 0, 1, polled);
                }
            }
        }
    }

    private static void foundToAll() {
        BENCH.sentence("6 POLLING: A frame is heard: to T, of type 2");
        Station x = Bench.polling(3, 7);
        BENCH.due("to all", Bench.hearAll(x, Bench.frame(2, 255, 5)), 0);
        BENCH.dueState("to all", x, 0, 3, 4);
        Station y = Bench.polling(3, 7);
        BENCH.due("to another", Bench.hearAll(y, Bench.frame(2, 4, 5)), 0);
        BENCH.dueState("to another", y, 6, 3, 4);
    }

    private static void foundByOtherTypes() {
        BENCH.sentence("any other: state 0.");
        for (int type = 0; type <= 255; type++) {
            if (type != 2) {
                Station x = Bench.polling(3, 7);
                int[] frame = Bench.frame(type, 3, 5, 1, 4, 0, 4, 1, 99);
                BENCH.due("sent upon type " + type, Bench.hearAll(x, frame), 0);
                BENCH.dueState("type " + type, x, 0, 3, 4);
                BENCH.due("replied() behind type " + type, x.replied(), 0);
            }
        }
    }

    private static void foundWithData() {
        BENCH.sentence("6 POLLING: A frame is heard: to T, of type 2");
        Station x = Bench.polling(3, 7);
        BENCH.dueBytes("with 40 bytes", Bench.upon(x, Bench.frame(2, 3, 0, new int[40])), Bench.frame(0, 0, 3));
        BENCH.dueState("with 40 bytes", x, 4, 0, 3);
    }

    private static void foundEndsTurnAndSole() {
        BENCH.sentence("SOLE is no; NEXT is FROM; POLLED is T; TOKENS and TRIES are 0; PASS; state 4");
        Station x = Bench.sole(3, 7);
        x.quiet(20);
        BENCH.due("a sole one", x.state(), SOLE + 6 + 8 * 3 + 128 * 5);
        Bench.hearAll(x, Bench.frame(2, 3, 5));
        BENCH.due("is not sole", x.state(), 4 + 8 * 5 + 128 * 3);
        Station y = Bench.full(3, 7, 6);
        Bench.hearAll(y, Bench.frame(0, 3, 6));
        BENCH.dueState("it polls with TOKENS 3", y, 6, 6, 4);
        Bench.hearAll(y, Bench.frame(2, 3, 5));
        BENCH.dueState("a nearer one is found", y, 4, 5, 3);
        for (int tokens = 0; tokens < 3; tokens++) {
            Bench.othersSpeak(y);
            Bench.hearAll(y, Bench.frame(0, 3, 6));
            BENCH.dueState("TOKENS is " + tokens, y, 4, 5, 3);
        }
        Bench.othersSpeak(y);
        Bench.hearAll(y, Bench.frame(0, 3, 6));
        BENCH.dueState("TOKENS is 3", y, 6, 5, 4);
    }

    private static void invalidFrames() {
        BENCH.sentence("A frame is invalid, or the silence is 20 or more:");
        int[] here = Bench.frame(2, 3, 5, 1, 2);
        int[][] wrong = {
            Bench.spoilt(Bench.frame(2, 3, 5), 7), Bench.spoilt(here, 10), Bench.spoilt(here, 11),
            Bench.header(2, 3, 5, 41),
        };
        for (int[] frame : wrong) {
            Station x = Bench.polling(3, 7);
            BENCH.dueBytes("an invalid frame", Bench.upon(x, frame), Bench.frame(1, 5, 3));
            BENCH.dueState("an invalid frame", x, 6, 3, 5);
        }
        Station y = Bench.polling(3, 7);
        Bench.hearAll(y, Bench.first(here, 7));
        BENCH.due("3 ticks", y.quiet(3), 0);
        BENCH.due("4 ticks", y.quiet(1), 8);
        BENCH.dueState("4 ticks", y, 6, 3, 5);
    }

    private static void silence() {
        BENCH.sentence("the silence is 20 or more:");
        Station x = Bench.polling(3, 7);
        BENCH.due("19 ticks", x.quiet(19), 0);
        x.hear(0);
        BENCH.due("19 ticks behind a byte", x.quiet(19), 0);
        Bench.hearAll(x, Bench.frame(2, 4, 5));
        BENCH.due("19 ticks behind a frame to another", x.quiet(19), 0);
        BENCH.dueState("19 ticks", x, 6, 3, 4);
        BENCH.due("20 ticks", x.quiet(1), 8);
        BENCH.dueState("20 ticks", x, 6, 3, 5);
    }

    private static void nobodyWhenSole() {
        BENCH.sentence("if SOLE, state 1;");
        Station x = Bench.sole(3, 7);
        x.ask(5, 1, 2, 0, 85);
        x.quiet(19);
        BENCH.due("19 ticks", x.state(), 4096 + SOLE + 6 + 8 * 3 + 128 * 4);
        BENCH.due("20 ticks: the token is used", x.quiet(1), 23);
        BENCH.due("20 ticks: the token is used", x.state(), SOLE + 2 + 8 * 3 + 128 * 4);
    }

    private static void nobodyWhenNextIsKnown() {
        BENCH.sentence("else, if NEXT is not T: TRIES is 0; PASS; state 4;");
        Station x = Bench.full(3, 7, 6);
        Bench.hearAll(x, Bench.frame(0, 3, 6));
        BENCH.dueState("it polls", x, 6, 6, 4);
        BENCH.due("19 ticks", x.quiet(19), 0);
        BENCH.due("20 ticks", x.quiet(1), 8);
        BENCH.dueBytes("passed", Bench.sentBytes(x), Bench.frame(0, 6, 3));
        BENCH.dueState("passed", x, 4, 6, 4);
        Bench.hearAll(x, 1, 2, 3, 4);
        BENCH.dueState("4 bytes", x, 4, 6, 4);
    }

    private static void nobodyYet() {
        BENCH.sentence("else, if POLLED + 1 is not T: POLLED is POLLED + 1; POLL that;");
        Station x = Bench.polling(3, 7);
        int[] order = {5, 6, 7, 0, 1, 2};
        for (int polled : order) {
            x.quiet(20);
            BENCH.dueBytes("poll of " + polled, Bench.sentBytes(x), Bench.frame(1, polled, 3));
            BENCH.due("poll of " + polled, x.state(), 6 + 8 * 3 + 128 * polled);
        }
    }

    private static void nobodyAtAll() {
        BENCH.sentence("else SOLE is yes; state 1.");
        Station x = Bench.polling(3, 7);
        Bench.rest(x, 120);
        BENCH.due("the last is polled", x.state(), 6 + 8 * 3 + 128 * 2);
        x.ask(5, 1, 2, 0, 85);
        BENCH.due("19 ticks", x.quiet(19), 0);
        BENCH.due("20 ticks: the token is used", x.quiet(1), 23);
        BENCH.due("20 ticks: sole", x.state(), SOLE + 2 + 8 * 3 + 128 * 2);
    }

    private static int hearInvalid(Station x) {
        return Bench.hearAll(x, Bench.spoilt(Bench.frame(2, 3, 5), 7));
    }

    private static void invalidWhenSole() {
        BENCH.sentence("A frame is invalid, or the silence is 20 or more: if SOLE, state 1;");
        Station x = Bench.sole(3, 7);
        x.ask(5, 1, 2, 0, 85);
        BENCH.due("the token is used", hearInvalid(x), 23);
        BENCH.due("the token is used", x.state(), SOLE + 2 + 8 * 3 + 128 * 4);
    }

    private static void invalidWhenNextIsKnown() {
        BENCH.sentence("A frame is invalid, or the silence is 20 or more: if SOLE, state 1; else, if NEXT is not T");
        Station x = Bench.full(3, 7, 6);
        Bench.hearAll(x, Bench.frame(0, 3, 6));
        BENCH.due("it is passed", hearInvalid(x), 8);
        BENCH.dueBytes("it is passed", Bench.sentBytes(x), Bench.frame(0, 6, 3));
        BENCH.dueState("it is passed", x, 4, 6, 4);
    }

    private static void invalidFromTheLast() {
        BENCH.sentence("else SOLE is yes; state 1.");
        Station x = Bench.polling(3, 7);
        Bench.rest(x, 120);
        x.ask(5, 1, 2, 0, 85);
        BENCH.due("the token is used", hearInvalid(x), 23);
        BENCH.due("the token is used", x.state(), SOLE + 2 + 8 * 3 + 128 * 2);
        Station y = Bench.polling(3, 7);
        Bench.rest(y, 120);
        BENCH.due("it polls again", hearInvalid(y), 8);
        BENCH.due("it polls again", y.state(), SOLE + 6 + 8 * 3 + 128 * 4);
    }
}
