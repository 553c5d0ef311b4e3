import java.util.ArrayDeque;
import java.util.ArrayList;
import java.util.List;

/** Promises 2 to 7 together: stations 0, 1 and 2 of 0 .. 3 on one line, each hearing what the others send. */
public final class LineTest {
    private static final Bench BENCH = new Bench("LineTest");

    private final Station[] stations = {new Station(0, 3), new Station(1, 3), new Station(2, 3)};
    private final ArrayDeque<int[]> frames = new ArrayDeque<>();

    public static void main(String[] args) {
        theyFindOneAnother();
        theTokenGoesRound();
        oneReadsOfAnother();
        oneFallsSilent();
        BENCH.end();
    }

    /** Lets ticks go by for all of them; what they send waits to be brought to the others. */
    private void quiet(int n) {
        for (Station x : stations) {
            if (x != null && x.quiet(n) > 0) {
                frames.add(Bench.sentBytes(x));
            }
        }
    }

    /** Brings the frame that waits to all but the one that has sent it; tells its type, TO and FROM. */
    private String bring() {
        if (frames.isEmpty()) {
            return "none";
        }
        int[] frame = frames.remove();
        for (int i = 0; i < stations.length; i++) {
            if (stations[i] != null && i != frame[4]) {
                int sent = Bench.hearAll(stations[i], frame);
                if (sent > 0) {
                    frames.add(Bench.sentBytes(stations[i]));
                }
            }
        }
        return frame[2] + " to " + frame[3] + " from " + frame[4];
    }

    private void due(String... frames) {
        for (String frame : frames) {
            String got = bring();
            BENCH.due("on the line is " + got + ", due is " + frame + ":", got.equals(frame), true);
        }
    }

    /** The token has been made by 0 and is about to be passed to it again, by 2. */
    private static LineTest found() {
        LineTest line = new LineTest();
        Bench.rest(line.stations[1], 499);
        Bench.rest(line.stations[2], 499);
        Bench.rest(line.stations[0], 499);
        line.quiet(1);
        line.due("1 to 1 from 0", "2 to 0 from 1", "0 to 1 from 0");
        line.due("1 to 2 from 1", "2 to 1 from 2", "0 to 2 from 1");
        line.due("1 to 3 from 2", "none");
        line.quiet(20);
        line.due("1 to 0 from 2", "2 to 2 from 0");
        return line;
    }

    private static void theyFindOneAnother() {
        LineTest line = found();
        BENCH.dueState("station 0", line.stations[0], 0, 1, 0);
        BENCH.dueState("station 1", line.stations[1], 0, 2, 1);
        BENCH.dueState("station 2", line.stations[2], 4, 0, 2);
    }

    private static void theTokenGoesRound() {
        LineTest line = found();
        line.due("0 to 0 from 2");
        for (int i = 0; i < 3; i++) {
            line.due("0 to 1 from 0", "0 to 2 from 1", "0 to 0 from 2");
        }
        line.due("0 to 1 from 0", "0 to 2 from 1", "1 to 3 from 2", "none");
        line.quiet(19);
        line.due("none");
        line.quiet(1);
        line.due("0 to 0 from 2", "0 to 1 from 0", "0 to 2 from 1", "0 to 0 from 2", "0 to 1 from 0");
    }

    private static void oneReadsOfAnother() {
        LineTest line = found();
        line.stations[2].set(1, 16, -2, false);
        line.stations[1].ask(2, 200, 2, 1, 85);
        line.due("0 to 0 from 2", "0 to 1 from 0", "5 to 2 from 1", "6 to 1 from 2", "0 to 2 from 1");
        BENCH.dueBytes("the reply", Bench.replyBytes(line.stations[1]),
            1, 0, 48, 200, 12, 12, 0, 128, 0, 1, 25, 85, 62, 68, 255, 255, 255, 254, 63);
        line.due("0 to 0 from 2", "0 to 1 from 0", "0 to 2 from 1");
        BENCH.due("others have no reply", line.stations[0].replied(), 0);
    }

    private static void oneFallsSilent() {
        LineTest line = found();
        line.due("0 to 0 from 2");
        line.stations[1] = null;
        line.due("0 to 1 from 0", "none");
        line.quiet(20);
        line.due("0 to 1 from 0", "none");
        line.quiet(20);
        line.due("1 to 2 from 0", "2 to 0 from 2", "0 to 2 from 0", "0 to 0 from 2", "0 to 2 from 0");
        BENCH.dueState("station 0 has a new next", line.stations[0], 4, 2, 0);
    }
}
