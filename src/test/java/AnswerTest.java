import java.util.Arrays;

/** THE ANSWER (promises 2, 4, 10 and 11): reading and writing by others. */
public final class AnswerTest {
    private static final Bench BENCH = new Bench("AnswerTest");
    private static final int[] INT_0 = Requests.INT_0;
    private static final int[] INT_1 = Requests.INT_1;
    private static final int[] BINARY_0 = Requests.BINARY_0;
    private static final int[] BINARY_1 = Requests.BINARY_1;

    public static void main(String[] args) {
        noAnswer();
        otherServices();
        reads();
        readsByRank();
        writes();
        writesOfNone();
        malformed();
        faults();
        onlyWhenIdle();
        BENCH.end();
    }

    private static int[] bytes(int... all) {
        return all;
    }

    private static void answer(Station x, String what, int[] data, int... want) {
        BENCH.dueBytes(what, Requests.sentUpon(x, data), Requests.sent(want));
    }

    /** What a new station answers to data that change nothing. */
    private static void refusal(String what, int[] data, int... want) {
        Station x = new Station(3, 7);
        answer(x, what, data, want);
        for (int thing = 0; thing < 4; thing++) {
            BENCH.due("present(" + thing + ") behind " + what, x.present(thing), 0);
        }
    }

    private static int[] read(int[] place, int... rest) {
        return Requests.read(place, rest);
    }

    private static int[] write(int[] place, int... rest) {
        return Requests.write(place, rest);
    }

    private static int[] told(int[] place, int... rest) {
        return Requests.told(place, rest);
    }

    private static int[] fault(int service, int x, int y) {
        return Requests.fault(service, x, y);
    }

    private static void noAnswer() {
        Station x = new Station(3, 7);
        answer(x, "no data", bytes());
        answer(x, "5 bytes", bytes(1, 4, 0, 4, 77));
        answer(x, "begins 0", bytes(0, 4, 0, 4, 77, 12));
        answer(x, "begins 1 5", bytes(1, 5, 0, 4, 77, 12));
        answer(x, "begins 1 4 1", bytes(1, 4, 1, 4, 77, 12));
        BENCH.due("state() behind these", x.state(), 3 * 136);
    }

    private static void otherServices() {
        Station x = new Station(3, 7);
        int[] others = {0, 11, 13, 14, 16, 255};
        for (int service : others) {
            answer(x, "service " + service, bytes(1, 4, 0, 200, 5, service), 1, 0, 96, 5, 9);
        }
        answer(x, "with more behind", bytes(1, 4, 0, 4, 255, 14, 12, 0), 1, 0, 96, 255, 9);
    }

    private static void reads() {
        Station x = new Station(3, 7);
        x.set(1, 4, -2, false);
        x.set(1, 0, 258, false);
        x.set(2, 16, 1, false);
        answer(x, "identity of 0", read(INT_0, 75), told(INT_0, 75, 62, 196, 0, 128, 0, 0, 63));
        answer(x, "identity of 3", read(BINARY_1, 75), told(BINARY_1, 75, 62, 196, 1, 0, 0, 1, 63));
        answer(x, "present of 0", read(INT_0, 85), told(INT_0, 85, 62, 68, 0, 0, 0, 0, 63));
        answer(x, "present of 1", read(INT_1, 85), told(INT_1, 85, 62, 68, 255, 255, 255, 254, 63));
        answer(x, "default of 1", read(INT_1, 104), told(INT_1, 104, 62, 68, 0, 0, 1, 2, 63));
        answer(x, "present of 2", read(BINARY_0, 85), told(BINARY_0, 85, 62, 145, 1, 63));
        answer(x, "default of 2", read(BINARY_0, 104), told(BINARY_0, 104, 62, 145, 0, 63));
        answer(x, "present of 3", read(BINARY_1, 85), told(BINARY_1, 85, 62, 145, 0, 63));
        int[] odd = read(INT_0, 85);
        odd[3] = 99;
        answer(x, "any byte before the id", odd, told(INT_0, 85, 62, 68, 0, 0, 0, 0, 63));
    }

    private static void readsByRank() {
        Station x = new Station(3, 7);
        x.set(0, 1, 1 << 24, false);
        x.set(0, 16, 5, false);
        x.set(3, 7, 0, false);
        answer(x, "index 0", read(INT_0, 87, 41, 0), told(INT_0, 87, 41, 0, 62, 33, 16, 63));
        answer(x, "index 1", read(INT_0, 87, 41, 1), told(INT_0, 87, 41, 1, 62, 68, 1, 0, 0, 0, 63));
        answer(x, "index 16", read(INT_0, 87, 41, 16), told(INT_0, 87, 41, 16, 62, 68, 0, 0, 0, 5, 63));
        answer(x, "index 2, none", read(INT_0, 87, 41, 2), told(INT_0, 87, 41, 2, 62, 0, 63));
        answer(x, "index 0 of 3", read(BINARY_1, 87, 41, 0), told(BINARY_1, 87, 41, 0, 62, 33, 16, 63));
        answer(x, "index 7 of 3", read(BINARY_1, 87, 41, 7), told(BINARY_1, 87, 41, 7, 62, 145, 0, 63));
        answer(x, "index 8 of 3", read(BINARY_1, 87, 41, 8), told(BINARY_1, 87, 41, 8, 62, 0, 63));
    }

    private static void writes() {
        Station x = new Station(3, 7);
        int[] done = {1, 0, 32, 77, 15};
        answer(x, "present of 0", write(INT_0, 85, 62, 68, 255, 0, 1, 2, 63), done);
        BENCH.due("present(0)", x.present(0), 0xff000102);
        answer(x, "it is rank 16", read(INT_0, 87, 41, 16), told(INT_0, 87, 41, 16, 62, 68, 255, 0, 1, 2, 63));
        answer(x, "rank 1", write(INT_0, 85, 62, 68, 0, 0, 0, 9, 63, 73, 1), done);
        BENCH.due("present(0) of rank 1", x.present(0), 9);
        answer(x, "rank 16", write(BINARY_0, 85, 62, 145, 1, 63, 73, 16), done);
        BENCH.due("present(2)", x.present(2), 1);
        answer(x, "default of 3", write(BINARY_1, 104, 62, 145, 1, 63), done);
        BENCH.due("present(3)", x.present(3), 1);
        answer(x, "default of 1, with a rank", write(INT_1, 104, 62, 68, 0, 0, 0, 3, 63, 73, 2), done);
        BENCH.due("present(1)", x.present(1), 3);
        answer(x, "the rank is none", read(INT_1, 87, 41, 2), told(INT_1, 87, 41, 2, 62, 0, 63));
        x.set(1, 8, 4, false);
        BENCH.due("it is the default", x.present(1), 4);
    }

    private static void writesOfNone() {
        Station x = new Station(3, 7);
        x.set(0, 16, 5, false);
        x.set(0, 4, 6, false);
        x.set(3, 16, 1, false);
        answer(x, "none to rank 4", write(INT_0, 85, 62, 0, 63, 73, 4), 1, 0, 32, 77, 15);
        BENCH.due("present(0) behind it", x.present(0), 5);
        answer(x, "none to rank 16", write(INT_0, 85, 62, 0, 63), 1, 0, 32, 77, 15);
        BENCH.due("present(0) behind both", x.present(0), 0);
        answer(x, "none to rank 16 of 3", write(BINARY_1, 85, 62, 0, 63), 1, 0, 32, 77, 15);
        BENCH.due("present(3) behind it", x.present(3), 0);
        answer(x, "none to a default", write(INT_0, 104, 62, 0, 63), fault(15, 2, 9));
    }

    private static void malformed() {
        int[] reject = {1, 0, 96, 77, 4};
        int[] read = read(INT_0, 87, 41, 3);
        for (int n = 6; n < read.length; n++) {
            if (n != read.length - 2) {
                refusal("first " + n + " bytes of a read", Arrays.copyOf(read, n), reject);
            }
        }
        refusal("a read and more", read(INT_0, 85, 0), reject);
        refusal("a read with index and more", read(INT_0, 87, 41, 3, 0), reject);
        refusal("two indices", read(INT_0, 87, 41, 3, 41, 3), reject);
        refusal("a read with a value", read(INT_0, 85, 62, 0, 63), reject);
        int[] write = write(INT_0, 85, 62, 68, 0, 0, 0, 7, 63, 73, 2);
        for (int n = 6; n < write.length; n++) {
            if (n != write.length - 2) {
                refusal("first " + n + " bytes of a write", Arrays.copyOf(write, n), reject);
            }
        }
        int[] marks = {6, 11, 13, 14, 19, 20};
        for (int place : marks) {
            refusal("a wrong mark at " + place, Bench.spoilt(write, place), reject);
        }
        refusal("a read with a wrong mark", Bench.spoilt(read, 6), reject);
        refusal("a read with a wrong property mark", Bench.spoilt(read, 11), reject);
        refusal("a read with a wrong index mark", Bench.spoilt(read, 13), reject);
        refusal("rank 0", write(INT_0, 85, 62, 68, 0, 0, 0, 7, 63, 73, 0), reject);
        refusal("rank 17", write(INT_0, 85, 62, 68, 0, 0, 0, 7, 63, 73, 17), reject);
        refusal("rank 17 of a default", write(INT_0, 104, 62, 68, 0, 0, 0, 7, 63, 73, 17), reject);
        refusal("more behind the rank", write(INT_0, 85, 62, 68, 0, 0, 0, 7, 63, 73, 2, 0), reject);
        refusal("no value", write(INT_0, 85, 62, 63), reject);
        int[] noMarks = {1, 12, 33, 67, 69, 144, 146, 196, 255};
        for (int mark : noMarks) {
            refusal("mark " + mark + " of no value", write(INT_0, 85, 62, mark, 63), reject);
            refusal("mark " + mark + " and a byte", write(BINARY_0, 85, 62, mark, 1, 63), reject);
        }
        refusal("two values", write(INT_0, 85, 62, 0, 0, 63), reject);
        refusal("a short int", write(INT_0, 85, 62, 68, 0, 0, 7, 63), reject);
        refusal("a malformed one of no thing", read(bytes(12, 9, 9, 9, 9), 85, 0), reject);
    }

    private static void faults() {
        int[][] noThings = {
            {12, 0, 128, 0, 2}, {12, 0, 0, 0, 0}, {12, 0, 192, 0, 0}, {12, 1, 0, 0, 2}, {12, 1, 64, 0, 0},
        };
        for (int[] place : noThings) {
            refusal("no thing", read(place, 85), fault(12, 1, 31));
        }
        refusal("no thing goes first", write(noThings[0], 1, 41, 99, 62, 145, 9, 63), fault(15, 1, 31));
        refusal("property 76", read(INT_0, 76), fault(12, 2, 32));
        refusal("property 86", write(INT_0, 86, 41, 1, 62, 0, 63), fault(15, 2, 32));
        refusal("index of 85", read(INT_0, 85, 41, 1), fault(12, 2, 50));
        refusal("index of 75", write(INT_0, 75, 41, 0, 62, 0, 63), fault(15, 2, 50));
        refusal("index of 104", read(BINARY_0, 104, 41, 17), fault(12, 2, 50));
        refusal("87 without index", read(INT_0, 87), fault(12, 2, 42));
        refusal("index 17", read(INT_0, 87, 41, 17), fault(12, 2, 42));
        refusal("index 255", write(INT_0, 87, 41, 255, 62, 0, 63), fault(15, 2, 42));
        refusal("87 written", write(INT_0, 87, 41, 1, 62, 145, 9, 63), fault(15, 2, 40));
        refusal("75 written", write(BINARY_0, 75, 62, 68, 0, 0, 0, 0, 63), fault(15, 2, 40));
        refusal("145 for class 2", write(INT_0, 85, 62, 145, 9, 63), fault(15, 2, 9));
        refusal("68 for class 4", write(BINARY_0, 85, 62, 68, 0, 0, 0, 1, 63), fault(15, 2, 9));
        refusal("145 to a default of class 2", write(INT_0, 104, 62, 145, 1, 63), fault(15, 2, 9));
        refusal("none to a default of class 4", write(BINARY_0, 104, 62, 0, 63), fault(15, 2, 9));
        refusal("145 2", write(BINARY_0, 85, 62, 145, 2, 63), fault(15, 2, 37));
        refusal("145 255 to a default", write(BINARY_1, 104, 62, 145, 255, 63), fault(15, 2, 37));
    }

    private static void onlyWhenIdle() {
        int[] data = write(INT_0, 85, 62, 68, 0, 0, 0, 7, 63);
        Station x = new Station(3, 7);
        BENCH.due("a write to all", Bench.hearAll(x, Bench.frame(5, 255, 9, data)), 0);
        BENCH.due("a write to another", Bench.hearAll(x, Bench.frame(5, 2, 9, data)), 0);
        BENCH.due("a write as a type 6", Bench.hearAll(x, Bench.frame(6, 3, 9, data)), 0);
        Station y = Bench.polling(3, 7);
        BENCH.due("a write while polling", Bench.hearAll(y, Bench.frame(5, 3, 9, data)), 0);
        BENCH.due("present(0) of the first", x.present(0), 0);
        BENCH.due("present(0) of the second", y.present(0), 0);
    }
}
