import java.util.Arrays;

/**
 * "Terms": the edges of HEARING. What the station makes of a frame is seen while it polls: one that is
 * heard makes it idle, an invalid one makes it poll on, and any other leaves it as it is.
 */
public final class HearingEdgesTest {
    private static final Bench BENCH = new Bench("HearingEdgesTest");
    private static final int[] FRAME = Bench.frame(9, 3, 5);
    private static final int[] WITH_DATA = Bench.frame(9, 3, 5, 1, 2, 3);
    private static final int[] BEHIND_85 = Arrays.copyOfRange(FRAME, 1, 8);

    public static void main(String[] args) {
        firstIsWaitedFor();
        anotherFirst();
        anyOtherByte();
        wrongHeaderChecks();
        wrongDataChecks();
        tooManyData();
        tooManyDataAndWrongCheck();
        silenceOfFour();
        silenceBehindFirst();
        silenceBehindTheEnd();
        silenceIsToldOnce();
        anewBehindWrongHeaderCheck();
        anewBehindWrongDataCheck();
        anewBehindTooManyData();
        anewBehindSilence();
        anewBehindTheEnd();
        heardByOwnAndAll();
        othersAreNeither();
        invalidOnesToOthers();
        BENCH.end();
    }

    private static Station polling() {
        return Bench.polling(3, 7);
    }

    private static void neither(String what, Station x) {
        BENCH.dueState(what, x, 6, 3, 4);
    }

    private static void invalid(String what, Station x) {
        BENCH.dueState(what, x, 6, 3, 5);
    }

    private static void heard(String what, Station x) {
        BENCH.dueState(what, x, 0, 3, 4);
    }

    private static void firstIsWaitedFor() {
        BENCH.sentence("HEARING: 85 is waited for");
        for (int b = 0; b <= 255; b++) {
            Station x = polling();
            x.hear(b);
            Bench.hearAll(x, BEHIND_85);
            if (b == 85) {
                heard("85 first", x);
            } else {
                neither(b + " in place of 85", x);
            }
        }
        Station y = polling();
        Bench.hearAll(y, BEHIND_85);
        neither("no 85", y);
    }

    private static void anotherFirst() {
        BENCH.sentence("(another 85 is waited behind again");
        for (int more = 1; more <= 20; more++) {
            Station x = polling();
            for (int i = 0; i < more; i++) {
                x.hear(85);
            }
            Bench.hearAll(x, FRAME);
            heard(more + " times 85 before", x);
        }
    }

    private static void anyOtherByte() {
        BENCH.sentence("any other byte: it begins anew)");
        for (int b = 0; b <= 254; b++) {
            if (b != 85) {
                Station x = polling();
                Bench.hearAll(x, 85, b);
                Bench.hearAll(x, BEHIND_85);
                neither("85 and " + b + " before 255", x);
                Bench.hearAll(x, 85, b);
                Bench.hearAll(x, FRAME);
                heard("85 and " + b + " before a frame", x);
            }
        }
    }

    private static void wrongHeaderChecks() {
        BENCH.sentence("A frame is INVALID when a check is wrong (told by the last byte of it)");
        for (int check = 0; check <= 255; check++) {
            Station x = polling();
            Bench.hearAll(x, Bench.first(FRAME, 7));
            neither("before the check", x);
            x.hear(check);
            if (check == FRAME[7]) {
                heard("the right check", x);
            } else {
                invalid("check " + check, x);
            }
        }
    }

    private static void wrongDataChecks() {
        BENCH.sentence("A frame is INVALID when a check is wrong (told by the last byte of it)");
        for (int wrong = 1; wrong <= 255; wrong++) {
            dataCheck(WITH_DATA[11] ^ wrong, WITH_DATA[12]);
            dataCheck(WITH_DATA[11], WITH_DATA[12] ^ wrong);
        }
        for (int place = 8; place <= 10; place++) {
            Station x = polling();
            Bench.hearAll(x, Bench.spoilt(WITH_DATA, place));
            invalid("a wrong byte of data", x);
        }
    }

    private static void dataCheck(int low, int high) {
        Station x = polling();
        Bench.hearAll(x, Bench.first(WITH_DATA, 11));
        x.hear(low);
        neither("behind the lower byte " + low, x);
        x.hear(high);
        invalid("check " + low + " " + high, x);
    }

    private static void tooManyData() {
        BENCH.sentence("when n is more than 40 and the header's check is right (told by that)");
        int[] tooMany = {41, 42, 127, 128, 255, 256, 257, 296, 10240, 32768, 65535};
        for (int n : tooMany) {
            Station x = polling();
            int[] header = Bench.header(9, 3, 5, n);
            Bench.hearAll(x, Bench.first(header, 7));
            neither("before the check, n is " + n, x);
            BENCH.due("sent upon the check, n is " + n, x.hear(header[7]), 8);
            invalid("n is " + n, x);
        }
        Station y = polling();
        Bench.hearAll(y, Bench.header(9, 3, 5, 40));
        neither("n is 40", y);
        Bench.hearAll(y, new int[40]);
        neither("40 bytes", y);
        Bench.hearAll(y, 94, 100);
        heard("40 bytes and their check", y);
    }

    private static void tooManyDataAndWrongCheck() {
        BENCH.sentence("when a check is wrong (told by the last byte of it), when n is more than 40");
        Station x = polling();
        int[] header = Bench.spoilt(Bench.header(9, 3, 5, 41), 7);
        Bench.hearAll(x, header);
        invalid("both at once are one fault", x);
    }

    private static void silenceOfFour() {
        BENCH.sentence("or when the silence becomes 4 behind the 255");
        for (int heard = 2; heard < WITH_DATA.length; heard++) {
            Station x = polling();
            Bench.hearAll(x, Bench.first(WITH_DATA, heard));
            BENCH.due("3 ticks behind byte " + heard, x.quiet(3), 0);
            neither("3 ticks behind byte " + heard, x);
            BENCH.due("4 ticks behind byte " + heard, x.quiet(1), 8);
            invalid("4 ticks behind byte " + heard, x);
            Station y = polling();
            for (int i = 0; i < heard; i++) {
                y.quiet(3);
                y.hear(WITH_DATA[i]);
            }
            y.quiet(3);
            neither("3 ticks before each of " + heard + " bytes and behind", y);
        }
    }

    private static void silenceBehindFirst() {
        BENCH.sentence("(not behind the 85 alone)");
        int[][] begins = {{85}, {85, 85}, {1, 85}, {85, 1}, {1}};
        for (int[] begin : begins) {
            Station x = polling();
            Bench.hearAll(x, begin);
            BENCH.due("19 ticks", x.quiet(19), 0);
            neither("19 ticks behind " + Arrays.toString(begin), x);
        }
        Station y = polling();
        y.hear(85);
        y.quiet(19);
        Bench.hearAll(y, BEHIND_85);
        heard("19 ticks behind the 85 of a frame", y);
    }

    private static void silenceBehindTheEnd() {
        BENCH.sentence("of one that is not at its end");
        int[][] ended = {Bench.frame(9, 2, 5), Bench.frame(9, 2, 5, 1, 2, 3), Bench.frame(9, 2, 5, new int[40])};
        for (int[] frame : ended) {
            Station x = polling();
            Bench.hearAll(x, frame);
            BENCH.due("19 ticks", x.quiet(19), 0);
            neither("19 ticks behind a whole frame to another", x);
        }
    }

    private static void silenceIsToldOnce() {
        BENCH.sentence("when the silence becomes 4");
        Station x = polling();
        Bench.hearAll(x, 85, 255);
        x.quiet(4);
        invalid("4 ticks", x);
        BENCH.due("19 ticks more", x.quiet(19), 0);
        invalid("19 ticks more", x);
    }

    /** The byte that tells it is no part of what comes behind, even if it is 85. */
    private static void anewBehindWrongHeaderCheck() {
        BENCH.sentence("it begins anew then.");
        Station x = new Station(3, 7);
        Bench.hearAll(x, 85, 255, 1, 3, 9, 0, 0, 85);
        BENCH.due("the 85 was the check", Bench.hearAll(x, 255, 1, 3, 9, 0, 0, 176), 0);
        BENCH.due("a whole one", Bench.hearAll(x, 85, 255, 1, 3, 9, 0, 0, 176), 8);
    }

    private static void anewBehindWrongDataCheck() {
        BENCH.sentence("it begins anew then.");
        Station x = new Station(3, 7);
        Bench.hearAll(x, Bench.header(3, 3, 9, 1));
        Bench.hearAll(x, 0, 120, 85);
        BENCH.due("the 85 was the check", Bench.hearAll(x, 255, 1, 3, 9, 0, 0, 176), 0);
        BENCH.due("a whole one", Bench.hearAll(x, 85, 255, 1, 3, 9, 0, 0, 176), 8);
    }

    private static void anewBehindTooManyData() {
        BENCH.sentence("it begins anew then.");
        int[] header = Bench.header(3, 3, fromWithCheck85(3, 41), 41);
        BENCH.due("the check of it", header[7], 85);
        Station x = new Station(3, 7);
        Bench.hearAll(x, header);
        BENCH.due("the 85 was the check", Bench.hearAll(x, 255, 1, 3, 9, 0, 0, 176), 0);
        BENCH.due("no data is waited for", Bench.hearAll(x, 85, 255, 1, 3, 9, 0, 0, 176), 8);
    }

    private static void anewBehindSilence() {
        BENCH.sentence("it begins anew then.");
        int[] poll = Bench.frame(1, 3, 9);
        for (int heard = 2; heard < 8; heard++) {
            Station x = new Station(3, 7);
            Bench.hearAll(x, Bench.first(poll, heard));
            x.quiet(4);
            BENCH.due("the rest of it", Bench.hearAll(x, Arrays.copyOfRange(poll, heard, 8)), 0);
            BENCH.due("a whole one", Bench.hearAll(x, poll), 8);
        }
    }

    private static void anewBehindTheEnd() {
        BENCH.sentence("HEARING: 85 is waited for, then 255");
        int[] poll = Bench.header(1, 3, fromWithCheck85(1, 0), 0);
        BENCH.due("the check of it", poll[7], 85);
        Station x = new Station(3, 7);
        BENCH.due("a frame that ends with 85", Bench.hearAll(x, poll), 8);
        BENCH.due("the 85 was its end", Bench.hearAll(x, Arrays.copyOfRange(poll, 1, 8)), 0);
        BENCH.due("a whole one", Bench.hearAll(x, 85, 255, 1, 3, 9, 0, 0, 176), 8);
    }

    private static int fromWithCheck85(int type, int n) {
        int from = 0;
        while (from < 255 && Bench.headerCheck(type, 3, from, n / 256, n % 256) != 85) {
            from++;
        }
        return from;
    }

    private static void heardByOwnAndAll() {
        BENCH.sentence("It is HEARD when it is at its end and its TO is T or 255");
        int[] tos = {3, 255};
        for (int to : tos) {
            wholeFrame(Bench.frame(9, to, 5));
            wholeFrame(Bench.frame(9, to, 5, 7));
            wholeFrame(Bench.frame(9, to, 5, new int[40]));
        }
    }

    private static void wholeFrame(int[] frame) {
        Station x = polling();
        Bench.hearAll(x, Bench.first(frame, frame.length - 1));
        neither("not at its end", x);
        x.hear(frame[frame.length - 1]);
        heard("at its end, to " + frame[3], x);
    }

    private static void othersAreNeither() {
        BENCH.sentence("one that goes to others is neither");
        for (int to = 0; to <= 254; to++) {
            if (to != 3) {
                Station x = polling();
                Bench.hearAll(x, Bench.frame(2, to, 5));
                neither("to " + to, x);
                Bench.hearAll(x, Bench.frame(2, to, 5, 1, 2));
                neither("with data, to " + to, x);
            }
        }
    }

    /** What is invalid is told before it is known to be a frame that goes to anybody. */
    private static void invalidOnesToOthers() {
        BENCH.sentence("A frame is INVALID when a check is wrong");
        int[] other = Bench.frame(9, 2, 5, 1, 2, 3);
        Station x = polling();
        Bench.hearAll(x, Bench.spoilt(Bench.frame(9, 2, 5), 7));
        invalid("a wrong check of a header to others", x);
        Station y = polling();
        Bench.hearAll(y, Bench.spoilt(other, 12));
        invalid("a wrong check of data to others", y);
        Station z = polling();
        Bench.hearAll(z, Bench.header(9, 2, 5, 41));
        invalid("41 bytes to others", z);
        Station w = polling();
        Bench.hearAll(w, Bench.first(other, 9));
        w.quiet(4);
        invalid("one to others that is cut off", w);
    }
}
