import java.util.Arrays;

/** Promise 2: hear, and the frames that it takes apart. */
public final class HearTest {
    private static final Bench BENCH = new Bench("HearTest");
    private static final int IDLE = 0;
    private static final int DONE_AND_PASSED = 4;
    private static final int POLLING = 6;
    private static final int[] POLL_TO_3 = Bench.frame(1, 3, 9);

    public static void main(String[] args) {
        wrongBytes();
        repliesToPolls();
        knownChecks();
        echoes();
        beginsOfFrames();
        whoIsMeant();
        invalidFrames();
        lengths();
        sendingDoesNotDisturb();
        BENCH.end();
    }

    private static void wrongBytes() {
        Station x = new Station(3, 7);
        Bench.hearAll(x, Bench.first(POLL_TO_3, 7));
        x.quiet(2);
        BENCH.due("hear(-1)", x.hear(-1), -1);
        BENCH.due("hear(256)", x.hear(256), -1);
        BENCH.due("hear(lowest)", x.hear(Integer.MIN_VALUE), -1);
        BENCH.due("hear(highest)", x.hear(Integer.MAX_VALUE), -1);
        BENCH.due("silence behind BAD", x.silence(), 2);
        BENCH.due("the frame goes on behind BAD", x.hear(POLL_TO_3[7]), 8);
    }

    private static void repliesToPolls() {
        Station x = new Station(3, 7);
        for (int i = 0; i < 7; i++) {
            BENCH.due("byte " + i + " of a poll", x.hear(POLL_TO_3[i]), 0);
        }
        BENCH.due("the last byte of a poll", x.hear(POLL_TO_3[7]), 8);
        BENCH.dueBytes("reply to a poll", Bench.sentBytes(x), Bench.frame(2, 9, 3));
        BENCH.dueState("behind a poll", x, IDLE, 3, 3);
        BENCH.due("the next byte", x.hear(0), 0);
        BENCH.dueBytes("a poll from station 255", Bench.upon(x, Bench.frame(1, 3, 255)), Bench.frame(2, 255, 3));
    }

    /** Checks known from elsewhere: 0 16 5 0 0 has 140, and the text 123456789 has 110 144. */
    private static void knownChecks() {
        Station x = Bench.polling(3, 7);
        Bench.hearAll(x, 85, 255, 0, 16, 5, 0, 0, 140);
        BENCH.dueState("a right check", x, POLLING, 3, 4);
        Bench.hearAll(x, 85, 255, 0, 16, 5, 0, 0, 141);
        BENCH.dueState("a wrong check", x, POLLING, 3, 5);
        Station y = new Station(3, 7);
        int[] data = {49, 50, 51, 52, 53, 54, 55, 56, 57};
        Bench.hearAll(y, Bench.header(3, 3, 9, 9));
        Bench.hearAll(y, data);
        BENCH.due("the first byte of the check", y.hear(110), 0);
        BENCH.due("the second byte of the check", y.hear(144), 19);
        BENCH.dueBytes("echo of 123456789", Bench.sentBytes(y),
            Bench.join(Bench.header(4, 9, 3, 9), data, new int[] {110, 144}));
    }

    private static void echoes() {
        Station x = new Station(0, 1);
        BENCH.dueBytes("echo of nothing", Bench.upon(x, Bench.frame(3, 0, 1)), Bench.frame(4, 1, 0));
        int[] data = new int[40];
        for (int i = 0; i < 40; i++) {
            data[i] = (i * 37 + 85) % 256;
        }
        BENCH.due("echo of 40 bytes", Bench.hearAll(x, Bench.frame(3, 0, 1, data)), 50);
        BENCH.dueBytes("echo of 40 bytes", Bench.sentBytes(x), Bench.frame(4, 1, 0, data));
        BENCH.dueBytes("echo of 85 255", Bench.upon(x, Bench.frame(3, 0, 1, 85, 255)), Bench.frame(4, 1, 0, 85, 255));
        BENCH.due("unknown type", Bench.hearAll(x, Bench.frame(8, 0, 1, 1)), 0);
        BENCH.due("type 2 when idle", Bench.hearAll(x, Bench.frame(2, 0, 1)), 0);
        BENCH.due("state() behind all these", x.state(), 0);
    }

    private static void beginsOfFrames() {
        Station x = new Station(3, 7);
        int[] rest = Arrays.copyOfRange(POLL_TO_3, 1, 8);
        BENCH.due("no 85", Bench.hearAll(x, rest), 0);
        BENCH.due("85 85 85 255", Bench.hearAll(x, Bench.join(new int[] {85, 85}, POLL_TO_3)), 8);
        BENCH.due("85 0 255", Bench.hearAll(x, Bench.join(new int[] {85, 0}, rest)), 0);
        BENCH.due("85 255 as noise before", Bench.hearAll(x, Bench.join(new int[] {255, 0, 254}, POLL_TO_3)), 8);
        x.hear(85);
        Bench.rest(x, 30);
        BENCH.due("a long silence behind 85", Bench.hearAll(x, rest), 8);
    }

    private static void whoIsMeant() {
        Station x = new Station(3, 7);
        BENCH.due("poll to all", Bench.hearAll(x, Bench.frame(1, 255, 9)), 0);
        BENCH.due("poll to another", Bench.hearAll(x, Bench.frame(1, 2, 9)), 0);
        BENCH.due("token to all", Bench.hearAll(x, Bench.frame(0, 255, 2)), 0);
        Station y = Bench.polling(3, 7);
        Bench.hearAll(y, Bench.frame(2, 5, 4));
        BENCH.dueState("one to others is neither", y, POLLING, 3, 4);
        Bench.hearAll(y, Bench.frame(2, 5, 4, 1, 2, 3));
        BENCH.dueState("one with data to others is neither", y, POLLING, 3, 4);
        Bench.hearAll(y, Bench.frame(2, 255, 4));
        BENCH.dueState("one to all is heard", y, IDLE, 3, 4);
    }

    private static void invalidFrames() {
        int[] good = Bench.frame(6, 3, 5, 1, 2, 3);
        for (int place = 2; place < 13; place++) {
            Station x = Bench.waiting(3, 7, 5);
            int told = place <= 7 ? 7 : 12;
            int[] bad = Bench.spoilt(good, place);
            BENCH.due("before it is told, byte " + place, Bench.hearAll(x, Bench.first(bad, told)), 0);
            BENCH.due("told, byte " + place, x.hear(bad[told]), 8);
            BENCH.dueNumber("wrong byte " + place, x, DONE_AND_PASSED);
            BENCH.due("no reply, byte " + place, x.replied(), 0);
        }
        Station y = new Station(3, 7);
        Bench.hearAll(y, Bench.spoilt(POLL_TO_3, 7));
        BENCH.due("a frame right behind an invalid one", Bench.hearAll(y, POLL_TO_3), 8);
        Station z = Bench.waiting(3, 7, 5);
        Bench.hearAll(z, Bench.spoilt(Bench.frame(6, 2, 5, 1, 2, 3), 9));
        BENCH.dueNumber("wrong data check of one to others", z, DONE_AND_PASSED);
    }

    private static void lengths() {
        Station x = Bench.waiting(3, 7, 5);
        int[] header = Bench.header(6, 3, 5, 41);
        BENCH.due("41 bytes, before the check", Bench.hearAll(x, Bench.first(header, 7)), 0);
        BENCH.due("41 bytes, by the check", x.hear(header[7]), 8);
        Station y = Bench.waiting(3, 7, 5);
        Bench.hearAll(y, Bench.header(6, 3, 5, 256));
        BENCH.dueNumber("256 bytes", y, DONE_AND_PASSED);
        Station z = Bench.waiting(3, 7, 5);
        Bench.hearAll(z, Bench.frame(6, 3, 5, new int[40]));
        BENCH.due("40 bytes", z.replied(), 40);
        Station w = Bench.waiting(3, 7, 5);
        Bench.hearAll(w, Bench.header(6, 2, 5, 41));
        BENCH.dueNumber("41 bytes to others", w, DONE_AND_PASSED);
    }

    private static void sendingDoesNotDisturb() {
        Station x = Bench.polling(3, 7);
        x.hear(85);
        x.quiet(20);
        BENCH.dueState("it has polled on", x, POLLING, 3, 5);
        int[] here = Bench.frame(2, 3, 6);
        BENCH.due("the rest of the frame", Bench.hearAll(x, Arrays.copyOfRange(here, 1, 8)), 8);
        BENCH.dueState("it is heard", x, DONE_AND_PASSED, 6, 3);
    }
}
