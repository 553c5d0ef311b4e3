/** "Terms": the edges of EVENTS and of the states 3 DONE and 4 PASSING. */
public final class PassEdgesTest {
    private static final Bench BENCH = new Bench("PassEdgesTest");
    private static final String TRIES = "TRIES is 0; PASS; state 4.";

    public static void main(String[] args) {
        eventsAreBytesHeard();
        eventsBehindPass();
        eventsBehindSecondPass();
        eventsBehindLost();
        doneWithNobodyNext();
        doneWithThreeTokens();
        doneWhenSole();
        doneNobodyBetween();
        doneSomeBetween();
        doneBeginsATurn();
        doneBeginsATurnWhenSole();
        triesOfFewTokens();
        triesOfATurn();
        triesBehindAPoll();
        triesOfOneFound();
        passingFewEvents();
        passingSilence();
        passingTwice();
        passingGivesUp();
        passingForgetsTokens();
        passingHearsNothing();
        BENCH.end();
    }

    private static int[] token(Station x, int own) {
        return Bench.upon(x, Bench.frame(0, own, 5));
    }

    private static void eventsAreBytesHeard() {
        BENCH.sentence("EVENTS is the number of bytes heard");
        Station x = Bench.passing(3, 7, 5);
        Bench.hearAll(x, 0, 85, 255, 1);
        x.hear(256);
        x.hear(-1);
        BENCH.dueNumber("4 bytes and 2 that are none", x, 4);
        x.quiet(3);
        BENCH.dueNumber("ticks are none", x, 4);
        x.hear(0);
        BENCH.dueNumber("5 bytes", x, 0);
    }

    private static void eventsBehindPass() {
        BENCH.sentence("PASS: send one of type 0 to NEXT; EVENTS is 0.");
        Station x = Bench.polling(3, 7);
        Bench.hearAll(x, 1, 2, 3, 4, 5, 6, 7, 8, 9);
        BENCH.dueBytes("found", Bench.upon(x, Bench.frame(2, 3, 7)), Bench.frame(0, 7, 3));
        BENCH.dueState("the bytes before do not count", x, 4, 7, 3);
        Bench.hearAll(x, 1, 2, 3, 4);
        BENCH.dueState("4 bytes", x, 4, 7, 3);
        x.hear(5);
        BENCH.dueState("5 bytes", x, 0, 7, 3);
    }

    private static void eventsBehindSecondPass() {
        BENCH.sentence("PASS: send one of type 0 to NEXT; EVENTS is 0.");
        Station x = Bench.passing(3, 7, 5);
        Bench.hearAll(x, 1, 2, 3, 4);
        x.quiet(20);
        BENCH.dueBytes("passed again", Bench.sentBytes(x), Bench.frame(0, 5, 3));
        Bench.hearAll(x, 1, 2, 3, 4);
        BENCH.dueState("the bytes before do not count", x, 4, 5, 3);
        x.hear(5);
        BENCH.dueState("5 bytes", x, 0, 5, 3);
    }

    private static void eventsBehindLost() {
        BENCH.sentence("The silence is 500 or more: EVENTS is 0; state 5.");
        Station x = new Station(3, 7);
        Bench.hearAll(x, 1, 2, 3, 4, 5, 6, 7);
        Bench.rest(x, 500);
        BENCH.dueNumber("the bytes before do not count", x, 5);
        Bench.hearAll(x, 1, 2, 3, 4);
        BENCH.dueNumber("4 bytes", x, 5);
        x.hear(5);
        BENCH.dueNumber("5 bytes", x, 0);
    }

    private static void doneWithNobodyNext() {
        BENCH.sentence("3 DONE: SOLE is no, and NEXT is T: POLLED is T + 1; POLL that; state 6.");
        Station x = Bench.polling(3, 7);
        x.quiet(20);
        BENCH.dueState("it polls on", x, 6, 3, 5);
        Bench.hearAll(x, Bench.frame(9, 3, 5));
        BENCH.dueState("idle", x, 0, 3, 5);
        BENCH.dueBytes("the next token", token(x, 3), Bench.frame(1, 4, 3));
        BENCH.dueState("it polls from the begin, though TOKENS is 0", x, 6, 3, 4);
    }

    private static void doneWithThreeTokens() {
        BENCH.sentence("TOKENS is less than 3: it is one more; if SOLE, state 1; else TRIES is 0; PASS; state 4.");
        Station x = Bench.idle(3, 7, 6);
        for (int tokens = 0; tokens < 3; tokens++) {
            BENCH.dueBytes("TOKENS is " + tokens, token(x, 3), Bench.frame(0, 6, 3));
            BENCH.dueState("TOKENS is " + tokens, x, 4, 6, 3);
            Bench.othersSpeak(x);
        }
        BENCH.dueBytes("TOKENS is 3", token(x, 3), Bench.frame(1, 4, 3));
        BENCH.dueState("TOKENS is 3", x, 6, 6, 4);
    }

    private static void doneWhenSole() {
        BENCH.sentence("TOKENS is less than 3: it is one more; if SOLE, state 1");
        Station x = Bench.polling(3, 4);
        Bench.rest(x, 60);
        BENCH.due("uses until TOKENS is 3 and it polls", Bench.uses(x), 4);
        BENCH.dueBytes("then it polls", Bench.sentBytes(x), Bench.frame(1, 4, 3));
    }

    private static void doneNobodyBetween() {
        BENCH.sentence("POLLED + 1 is not NEXT: POLLED is POLLED + 1; POLL that; state 6.");
        Station x = Bench.full(3, 7, 4);
        BENCH.dueBytes("NEXT is T + 1", token(x, 3), Bench.frame(0, 4, 3));
        BENCH.dueState("NEXT is T + 1", x, 4, 4, 3);
    }

    private static void doneSomeBetween() {
        BENCH.sentence("POLLED + 1 is not NEXT: POLLED is POLLED + 1; POLL that; state 6.");
        Station x = Bench.full(3, 7, 6);
        for (int polled = 4; polled <= 5; polled++) {
            BENCH.dueBytes("a token", token(x, 3), Bench.frame(1, polled, 3));
            BENCH.dueState("a token", x, 6, 6, polled);
            x.quiet(20);
            BENCH.dueState("it is passed behind the poll", x, 4, 6, polled);
            Bench.othersSpeak(x);
        }
        BENCH.dueBytes("NEXT is reached", token(x, 3), Bench.frame(0, 6, 3));
        BENCH.dueState("NEXT is reached", x, 4, 6, 3);
    }

    private static void doneBeginsATurn() {
        BENCH.sentence("Else: POLLED is T; TRIES is 0; TOKENS is 1; PASS; state 4.");
        Station x = Bench.full(3, 7, 5);
        token(x, 3);
        x.quiet(20);
        Bench.othersSpeak(x);
        token(x, 3);
        BENCH.dueState("the turn begins, TOKENS is 1", x, 4, 5, 3);
        for (int tokens = 1; tokens < 3; tokens++) {
            Bench.othersSpeak(x);
            BENCH.dueBytes("TOKENS is " + tokens, token(x, 3), Bench.frame(0, 5, 3));
        }
        Bench.othersSpeak(x);
        BENCH.dueBytes("TOKENS is 3", token(x, 3), Bench.frame(1, 4, 3));
    }

    private static void doneBeginsATurnWhenSole() {
        BENCH.sentence("SOLE: POLLED is NEXT + 1; POLL that; NEXT is T; TOKENS is 1; state 6.");
        Station x = Bench.sole(3, 4);
        BENCH.due("the turn begins", x.state(), 2048 + 6 + 8 * 3 + 128 * 4);
        BENCH.due("uses when TOKENS is 1", Bench.uses(x), 3);
        int[] others = {0, 1, 2};
        for (int polled : others) {
            BENCH.dueState("the turn goes on", x, 6, 3, polled);
            BENCH.due("uses when TOKENS is 3", Bench.uses(x), 1);
        }
        BENCH.dueState("the next turn", x, 6, 3, 4);
        BENCH.due("uses when TOKENS is 1 again", Bench.uses(x), 3);
    }

    /** A token that was taken only with the second try leaves TRIES at 1, so a next one shows its 0. */
    private static void secondTryIsTaken(Station x) {
        x.quiet(20);
        Bench.othersSpeak(x);
    }

    private static void twoTries(String what, Station x, int next) {
        x.quiet(20);
        BENCH.dueBytes(what + ", second try", Bench.sentBytes(x), Bench.frame(0, next, 3));
        BENCH.dueNumber(what + ", second try", x, 4);
        x.quiet(20);
        BENCH.dueNumber(what + ", given up", x, 6);
    }

    private static void triesOfFewTokens() {
        BENCH.sentence("TOKENS is less than 3: it is one more; if SOLE, state 1; else " + TRIES);
        Station x = Bench.passing(3, 7, 5);
        secondTryIsTaken(x);
        token(x, 3);
        twoTries("few tokens", x, 5);
    }

    private static void triesOfATurn() {
        BENCH.sentence("Else: POLLED is T; TRIES is 0; TOKENS is 1; PASS; state 4.");
        Station x = Bench.idle(3, 7, 4);
        token(x, 3);
        Bench.othersSpeak(x);
        token(x, 3);
        Bench.othersSpeak(x);
        token(x, 3);
        secondTryIsTaken(x);
        token(x, 3);
        twoTries("a turn", x, 4);
    }

    private static void triesBehindAPoll() {
        BENCH.sentence("else, if NEXT is not T: TRIES is 0; PASS; state 4");
        Station x = Bench.idle(3, 7, 5);
        token(x, 3);
        Bench.othersSpeak(x);
        token(x, 3);
        Bench.othersSpeak(x);
        token(x, 3);
        secondTryIsTaken(x);
        token(x, 3);
        BENCH.dueState("it polls", x, 6, 5, 4);
        x.quiet(20);
        BENCH.dueState("it passes", x, 4, 5, 4);
        twoTries("behind a poll", x, 5);
    }

    private static void triesOfOneFound() {
        BENCH.sentence("TOKENS and TRIES are 0; PASS; state 4");
        Station x = Bench.passing(3, 7, 5);
        x.quiet(40);
        BENCH.dueState("given up", x, 6, 3, 6);
        Bench.hearAll(x, Bench.frame(2, 3, 6));
        BENCH.dueState("found", x, 4, 6, 3);
        twoTries("one found", x, 6);
    }

    private static void passingFewEvents() {
        BENCH.sentence("4 PASSING: The silence is less than 20, and EVENTS more than 4: state 0.");
        for (int bytes = 0; bytes <= 4; bytes++) {
            Station x = Bench.passing(3, 7, 5);
            for (int i = 0; i < bytes; i++) {
                x.quiet(19);
                x.hear(i);
            }
            BENCH.due("19 ticks behind " + bytes + " bytes", x.quiet(19), 0);
            BENCH.dueState("19 ticks behind " + bytes + " bytes", x, 4, 5, 3);
            BENCH.due("20 ticks behind " + bytes + " bytes", x.quiet(1), 8);
        }
        Station y = Bench.passing(3, 7, 5);
        Bench.othersSpeak(y);
        BENCH.dueState("5 bytes", y, 0, 5, 3);
        BENCH.due("ticks behind 5 bytes", y.quiet(100), 0);
    }

    private static void passingSilence() {
        BENCH.sentence("The silence is 20 or more, and TRIES 0: TRIES is 1; PASS.");
        Station x = Bench.passing(3, 7, 5);
        BENCH.due("19 ticks", x.quiet(19), 0);
        BENCH.due("20 ticks", x.quiet(1), 8);
        BENCH.dueBytes("passed again", Bench.sentBytes(x), Bench.frame(0, 5, 3));
        BENCH.dueState("passed again", x, 4, 5, 3);
        BENCH.due("silence()", x.silence(), 0);
    }

    private static void passingTwice() {
        BENCH.sentence("The silence is 20 or more: POLLED is NEXT + 1; POLL that");
        Station x = Bench.passing(3, 7, 5);
        x.quiet(20);
        BENCH.due("19 ticks", x.quiet(19), 0);
        BENCH.dueState("19 ticks", x, 4, 5, 3);
        BENCH.due("20 ticks", x.quiet(1), 8);
        BENCH.dueBytes("polled", Bench.sentBytes(x), Bench.frame(1, 6, 3));
    }

    private static void passingGivesUp() {
        BENCH.sentence("POLLED is NEXT + 1; POLL that; NEXT is T; TOKENS is 0; state 6.");
        Station x = Bench.passing(3, 7, 5);
        x.quiet(40);
        BENCH.dueState("given up", x, 6, 3, 6);
        Station y = Bench.passing(3, 7, 2);
        y.quiet(40);
        BENCH.dueBytes("the station itself is behind NEXT", Bench.lastSent(y), Bench.frame(1, 3, 3));
        BENCH.dueState("the station itself is behind NEXT", y, 6, 3, 3);
        y.quiet(20);
        BENCH.dueState("it polls on", y, 6, 3, 4);
    }

    private static void passingForgetsTokens() {
        BENCH.sentence("NEXT is T; TOKENS is 0; state 6.");
        Station x = Bench.idle(3, 4, 1);
        token(x, 3);
        Bench.othersSpeak(x);
        token(x, 3);
        x.quiet(40);
        BENCH.dueState("given up", x, 6, 3, 2);
        BENCH.due("uses of it", Bench.uses(x), 4);
    }

    private static void passingHearsNothing() {
        BENCH.sentence("The silence is less than 20, and EVENTS more than 4: state 0.");
        Station x = Bench.passing(3, 7, 5);
        Bench.hearAll(x, 85, 255, 1, 2);
        BENCH.due("a frame that is cut off does not matter", x.quiet(19), 0);
        BENCH.dueState("a frame that is cut off does not matter", x, 4, 5, 3);
        Station y = Bench.passing(3, 7, 5);
        BENCH.dueBytes("a poll is answered, as it is idle by then", Bench.upon(y, Bench.frame(1, 3, 9)),
            Bench.frame(2, 9, 3));
        BENCH.dueState("a poll is answered", y, 0, 5, 3);
    }
}
