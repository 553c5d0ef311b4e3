import java.util.Arrays;

/** "Terms": the edges of the silence, of a frame and of its checks. */
public final class FrameEdgesTest {
    private static final Bench BENCH = new Bench("FrameEdgesTest");

    public static void main(String[] args) {
        silenceAtFirst();
        silenceSinceHeard();
        silenceSinceSent();
        sendingTakesNoTime();
        sendingDoesNotDisturb();
        framesOfEveryLength();
        frameWithoutData();
        higherByteFirst();
        checkOfHeader();
        checkOfData();
        lowerByteFirst();
        BENCH.end();
    }

    private static void silenceAtFirst() {
        BENCH.sentence("THE SILENCE is the number of ticks since a byte was heard or sent (0 at first)");
        Station x = new Station(0, 1);
        BENCH.due("at first", x.silence(), 0);
        x.quiet(1);
        BENCH.due("a tick", x.silence(), 1);
        BENCH.due("the ticks from the first on count", Bench.rest(x, 498), 0);
        BENCH.due("tick 500", x.quiet(1), 8);
    }

    private static void silenceSinceHeard() {
        BENCH.sentence("THE SILENCE is the number of ticks since a byte was heard");
        int[] any = {0, 1, 85, 255};
        for (int b : any) {
            Station x = new Station(3, 7);
            x.quiet(100);
            BENCH.due("100 ticks", x.silence(), 100);
            x.hear(b);
            BENCH.due("byte " + b, x.silence(), 0);
            x.quiet(1);
            BENCH.due("a tick behind byte " + b, x.silence(), 1);
        }
    }

    private static void silenceSinceSent() {
        BENCH.sentence("or sent");
        Station x = Bench.polling(3, 7);
        x.quiet(19);
        BENCH.due("19 ticks behind a poll", x.silence(), 19);
        x.quiet(1);
        BENCH.due("with the next poll", x.silence(), 0);
        x.quiet(1);
        BENCH.due("a tick behind it", x.silence(), 1);
    }

    private static void sendingTakesNoTime() {
        BENCH.sentence("sending takes no time");
        Station x = Bench.polling(3, 15);
        BENCH.due("a poll with each 20th tick of 100", x.quiet(100), 40);
        BENCH.due("none of the ticks is lost", x.silence(), 0);
        BENCH.due("another 20", x.quiet(20), 8);
    }

    private static void sendingDoesNotDisturb() {
        BENCH.sentence("(and does not disturb a frame that comes in)");
        Station x = Bench.polling(3, 7);
        x.hear(85);
        BENCH.due("two polls behind an 85", x.quiet(40), 16);
        int[] here = Bench.frame(2, 3, 6);
        for (int i = 1; i < 7; i++) {
            BENCH.due("byte " + i, x.hear(here[i]), 0);
        }
        BENCH.due("the last byte", x.hear(here[7]), 8);
        BENCH.dueState("it is heard", x, 4, 6, 3);
    }

    private static void framesOfEveryLength() {
        BENCH.sentence("and if n is more than 0, n bytes of data and two of a check");
        for (int n = 1; n <= 40; n++) {
            Station x = new Station(3, 7);
            int[] data = new int[n];
            for (int i = 0; i < n; i++) {
                data[i] = (i * 91 + n * 6 + 1) % 256;
            }
            int[] frame = Bench.frame(3, 3, 5, data);
            BENCH.due("bytes of a frame", frame.length, 10 + n);
            BENCH.due("all but the last", Bench.hearAll(x, Bench.first(frame, 9 + n)), 0);
            BENCH.due("the last of " + n, x.hear(frame[9 + n]), 10 + n);
            BENCH.dueBytes("echo of " + n, Bench.sentBytes(x), Bench.frame(4, 5, 3, data));
        }
    }

    private static void frameWithoutData() {
        BENCH.sentence("if n is more than 0");
        Station x = new Station(3, 7);
        int[] empty = Bench.frame(3, 3, 5);
        BENCH.due("all but the check", Bench.hearAll(x, Bench.first(empty, 7)), 0);
        BENCH.due("the check", x.hear(empty[7]), 8);
        BENCH.dueBytes("echo of nothing", Bench.sentBytes(x), Bench.frame(4, 5, 3));
        BENCH.due("a frame at once behind it", Bench.hearAll(x, empty), 8);
    }

    private static void higherByteFirst() {
        BENCH.sentence("the number n of data bytes in two, the higher one first");
        Station x = new Station(0, 1);
        BENCH.due("0 1 is one byte", Bench.hearAll(x, 85, 255, 3, 0, 1, 0, 1, 21, 0, 120, 240), 11);
        BENCH.due("sent: the higher", x.sent(5), 0);
        BENCH.due("sent: the lower", x.sent(6), 1);
        Station y = Bench.polling(3, 7);
        Bench.hearAll(y, Bench.header(3, 3, 5, 256));
        BENCH.dueState("1 0 is 256, which is too many", y, 6, 3, 5);
    }

    private static void checkOfHeader() {
        BENCH.sentence("THE CHECK of a header: c is 255");
        Station x = new Station(0, 1);
        BENCH.due("a token of zeros alone has 250", Bench.hearAll(x, 85, 255, 0, 0, 0, 0, 0, 250), 8);
        Station y = new Station(3, 7);
        BENCH.dueBytes("1 3 9 0 0 has 176, and 2 9 3 0 0 has 147", Bench.upon(y, 85, 255, 1, 3, 9, 0, 0, 176),
            85, 255, 2, 9, 3, 0, 0, 147);
        Station z = Bench.polling(3, 7);
        Bench.hearAll(z, 85, 255, 255, 255, 255, 0, 0, Bench.headerCheck(255, 255, 255, 0, 0));
        BENCH.dueState("the highest type and FROM", z, 0, 3, 4);
    }

    private static void checkOfData() {
        BENCH.sentence("That of data likewise, with 65535, 33800 and 65535");
        known(new int[] {0}, 120, 240);
        known(new int[] {255}, 0, 255);
        known(new int[] {1, 34, 48}, 16, 189);
        known(new int[] {49, 50, 51, 52, 53, 54, 55, 56, 57}, 110, 144);
        known(new int[40], 94, 100);
        int[] highest = new int[40];
        Arrays.fill(highest, 255);
        known(highest, 184, 153);
    }

    private static void known(int[] data, int low, int high) {
        Station x = new Station(3, 7);
        int[] check = {low, high};
        int[] echo = Bench.upon(x, Bench.join(Bench.header(3, 3, 5, data.length), data, check));
        BENCH.dueBytes("data with a known check", echo, Bench.join(Bench.header(4, 5, 3, data.length), data, check));
    }

    private static void lowerByteFirst() {
        BENCH.sentence("its lower byte comes first");
        Station x = Bench.polling(3, 7);
        int[] frame = Bench.frame(9, 3, 5, 1, 34, 48);
        int[] turned = frame.clone();
        turned[11] = frame[12];
        turned[12] = frame[11];
        Bench.hearAll(x, turned);
        BENCH.dueState("the higher one first is wrong", x, 6, 3, 5);
        Bench.hearAll(x, frame);
        BENCH.dueState("the lower one first is right", x, 0, 3, 5);
    }
}
