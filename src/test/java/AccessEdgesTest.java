/** "Terms": the edges of what a write puts and of what a read tells. */
public final class AccessEdgesTest {
    private static final Bench BENCH = new Bench("AccessEdgesTest");
    private static final int LOWEST = Integer.MIN_VALUE;
    private static final int HIGHEST = Integer.MAX_VALUE;
    private static final int[] VALUES = {LOWEST, -1, 0, 1, 255, 256, 65536, 16909060, HIGHEST};

    public static void main(String[] args) {
        writeToEachRank();
        writeWithoutRank();
        writeNoneWithoutRank();
        writeNoneToEachRank();
        writeDefault();
        writeDefaultWithRank();
        writeInts();
        readIdentity();
        readPresent();
        readDefault();
        readIndexOfZero();
        readEachRank();
        readNone();
        readInts();
        answerGoesToFrom();
        BENCH.end();
    }

    private static int[] intBytes(int value) {
        return new int[] {value >>> 24, value >> 16 & 255, value >> 8 & 255, value & 255};
    }

    private static int[] value(int thing, int value) {
        return thing < 2 ? Bench.join(new int[] {68}, intBytes(value)) : new int[] {145, value};
    }

    private static int[] write(int thing, int property, int value) {
        return Bench.join(Requests.write(Requests.PLACES[thing], property, 62), value(thing, value), new int[] {63});
    }

    private static int[] ranked(int[] write, int rank) {
        return Bench.join(write, new int[] {73, rank});
    }

    private static void written(Station x, int[] data) {
        BENCH.dueBytes("a write", Requests.sentUpon(x, data), Requests.sent(Requests.written()));
    }

    private static void told(String what, Station x, int thing, int[] property, int... value) {
        int[] place = Requests.PLACES[thing];
        int[] want = Bench.join(Requests.told(place, property), new int[] {62}, value, new int[] {63});
        BENCH.dueBytes(what, Requests.sentUpon(x, Requests.read(place, property)), Requests.sent(want));
    }

    private static int[] only(int property) {
        return new int[] {property};
    }

    private static int[] index(int index) {
        return new int[] {87, 41, index};
    }

    private static void writeToEachRank() {
        BENCH.sentence("Else a write puts the value to the rank");
        for (int thing = 0; thing < 4; thing++) {
            for (int rank = 1; rank <= 16; rank++) {
                Station x = new Station(3, 7);
                written(x, ranked(write(thing, 85, 1), rank));
                BENCH.due("present(" + thing + ")", x.present(thing), 1);
                told("rank " + rank, x, thing, index(rank), value(thing, 1));
                told("rank before or behind", x, thing, index(rank == 16 ? 15 : rank + 1), 0);
                told("default", x, thing, only(104), value(thing, 0));
            }
        }
    }

    private static void writeWithoutRank() {
        BENCH.sentence("(16 if none is told) for 85");
        for (int thing = 0; thing < 4; thing++) {
            Station x = new Station(3, 7);
            written(x, write(thing, 85, 1));
            told("rank 16", x, thing, index(16), value(thing, 1));
            told("rank 15", x, thing, index(15), 0);
            Station y = new Station(3, 7);
            written(y, ranked(write(thing, 85, 0), 3));
            written(y, write(thing, 85, 1));
            told("rank 3 of an earlier write stays", y, thing, index(3), value(thing, 0));
            told("rank 16 behind an earlier write", y, thing, index(16), value(thing, 1));
        }
    }

    private static void writeNoneWithoutRank() {
        BENCH.sentence("a VALUE (0: none;");
        for (int thing = 0; thing < 4; thing++) {
            Station x = new Station(3, 7);
            x.set(thing, 16, 1, false);
            x.set(thing, 15, 1, false);
            written(x, Requests.write(Requests.PLACES[thing], 85, 62, 0, 63));
            told("rank 16", x, thing, index(16), 0);
            told("rank 15", x, thing, index(15), value(thing, 1));
        }
    }

    private static void writeNoneToEachRank() {
        BENCH.sentence("Else a write puts the value to the rank");
        for (int rank = 1; rank <= 16; rank++) {
            Station x = new Station(3, 7);
            for (int r = 1; r <= 16; r++) {
                x.set(1, r, r, false);
            }
            written(x, Requests.write(Requests.INT_1, 85, 62, 0, 63, 73, rank));
            BENCH.due("present(1)", x.present(1), rank == 1 ? 2 : 1);
            told("rank " + rank, x, 1, index(rank), 0);
            written(x, Requests.write(Requests.INT_1, 85, 62, 0, 63, 73, rank));
            told("none of what is none", x, 1, index(rank), 0);
        }
    }

    private static void writeDefault() {
        BENCH.sentence("to the default for 104");
        for (int thing = 0; thing < 4; thing++) {
            Station x = new Station(3, 7);
            written(x, write(thing, 104, 1));
            BENCH.due("present(" + thing + ")", x.present(thing), 1);
            told("rank 16", x, thing, index(16), 0);
            x.set(thing, 16, 0, false);
            BENCH.due("a rank goes before it", x.present(thing), 0);
        }
    }

    private static void writeDefaultWithRank() {
        BENCH.sentence("(a RANK does not matter there)");
        for (int thing = 0; thing < 4; thing++) {
            for (int rank = 1; rank <= 16; rank++) {
                Station x = new Station(3, 7);
                written(x, ranked(write(thing, 104, 1), rank));
                told("the default", x, thing, only(104), value(thing, 1));
                told("rank " + rank, x, thing, index(rank), 0);
            }
        }
    }

    private static void writeInts() {
        BENCH.sentence("Ints are written in four bytes, the highest first.");
        for (int value : VALUES) {
            Station x = new Station(3, 7);
            written(x, write(1, 85, value));
            BENCH.due("present(1)", x.present(1), value);
            Station y = new Station(3, 7);
            written(y, write(0, 104, value));
            BENCH.due("present(0)", y.present(0), value);
        }
    }

    private static void readIdentity() {
        BENCH.sentence("that is for 75 196 and the int");
        int[][] ints = {{0, 128, 0, 0}, {0, 128, 0, 1}, {1, 0, 0, 0}, {1, 0, 0, 1}};
        for (int thing = 0; thing < 4; thing++) {
            told("75", new Station(3, 7), thing, only(75), Bench.join(new int[] {196}, ints[thing]));
        }
    }

    private static void readPresent() {
        BENCH.sentence("for 85 the present value");
        for (int thing = 0; thing < 4; thing++) {
            Station x = new Station(3, 7);
            told("all none", x, thing, only(85), value(thing, 0));
            x.set(thing, 0, 1, false);
            told("the default", x, thing, only(85), value(thing, 1));
            x.set(thing, 16, 0, false);
            told("rank 16", x, thing, only(85), value(thing, 0));
            x.set(thing, 1, 1, false);
            told("rank 1", x, thing, only(85), value(thing, 1));
        }
    }

    private static void readDefault() {
        BENCH.sentence("for 104 the default");
        for (int thing = 0; thing < 4; thing++) {
            Station x = new Station(3, 7);
            x.set(thing, 1, 1, false);
            told("0 at first", x, thing, only(104), value(thing, 0));
            x.set(thing, 0, 1, false);
            x.set(thing, 1, 0, false);
            told("1, though the present value is 0", x, thing, only(104), value(thing, 1));
        }
    }

    private static void readIndexOfZero() {
        BENCH.sentence("33 16 for the index 0");
        for (int thing = 0; thing < 4; thing++) {
            Station x = new Station(3, 7);
            told("all none", x, thing, index(0), 33, 16);
            x.set(thing, 0, 1, false);
            x.set(thing, 1, 1, false);
            told("some not", x, thing, index(0), 33, 16);
        }
    }

    private static void readEachRank() {
        BENCH.sentence("for 87 that of the rank that is the index");
        for (int rank = 1; rank <= 16; rank++) {
            Station x = new Station(3, 7);
            for (int r = 1; r <= 16; r++) {
                x.set(0, r, 256 * r, false);
                x.set(3, r, r == rank ? 1 : 0, false);
            }
            told("rank " + rank + " of 0", x, 0, index(rank), 68, 0, 0, rank, 0);
            told("rank " + rank + " of 3", x, 3, index(rank), 145, 1);
        }
    }

    private static void readNone() {
        BENCH.sentence("(0 if it is none;");
        for (int thing = 0; thing < 4; thing++) {
            for (int rank = 1; rank <= 16; rank++) {
                Station x = new Station(3, 7);
                x.set(thing, 0, 1, false);
                told("none at first", x, thing, index(rank), 0);
                x.set(thing, rank, 0, false);
                told("a value of 0 is not none", x, thing, index(rank), value(thing, 0));
                x.set(thing, rank, 0, true);
                told("none again", x, thing, index(rank), 0);
            }
        }
    }

    private static void readInts() {
        BENCH.sentence("Ints are written in four bytes, the highest first.");
        for (int value : VALUES) {
            Station x = new Station(3, 7);
            x.set(1, 9, value, false);
            told("a rank", x, 1, index(9), Bench.join(new int[] {68}, intBytes(value)));
            told("the present value", x, 1, only(85), Bench.join(new int[] {68}, intBytes(value)));
        }
        Station y = new Station(3, 7);
        y.set(0, 0, 16909060, false);
        told("1 2 3 4", y, 0, only(104), 68, 1, 2, 3, 4);
        y.set(0, 0, LOWEST, false);
        told("the lowest", y, 0, only(104), 68, 128, 0, 0, 0);
        y.set(0, 0, -2, false);
        told("-2", y, 0, only(104), 68, 255, 255, 255, 254);
    }

    private static void answerGoesToFrom() {
        BENCH.sentence("Of type 5: send type 6 to FROM with THE ANSWER to its data");
        int[] froms = {0, 3, 8, 254, 255};
        for (int from : froms) {
            Station x = new Station(3, 7);
            int[] data = Requests.write(Requests.INT_0, 85, 62, 68, 0, 0, 0, 5, 63);
            BENCH.dueBytes("from " + from, Bench.upon(x, Bench.frame(5, 3, from, data)),
                Bench.frame(6, from, 3, Requests.written()));
            BENCH.due("present(0)", x.present(0), 5);
        }
    }
}
