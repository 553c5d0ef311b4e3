import java.util.Arrays;

/** "Terms": the edges of THE ANSWER, each of its faults, and which of two faults is told. */
public final class AnswerEdgesTest {
    private static final Bench BENCH = new Bench("AnswerEdgesTest");
    private static final int READ = Requests.READ;
    private static final int WRITE = Requests.WRITE;
    private static final int[] INT_0 = Requests.INT_0;
    private static final int[] INT_1 = Requests.INT_1;
    private static final int[] BINARY_0 = Requests.BINARY_0;
    private static final int[] BINARY_1 = Requests.BINARY_1;
    private static final int[] NO_THING = {12, 0, 128, 0, 2};
    private static final int[] ZERO = {62, 68, 0, 0, 0, 0, 63};

    public static void main(String[] args) {
        tooFewBytes();
        otherBegins();
        anyByteAndId();
        otherServices();
        serviceGoesBeforeForm();
        intIsMissing();
        propertyIsMissing();
        indexIsMissing();
        valueIsMissing();
        wrongValues();
        rankTooSmallOrLarge();
        rankIsMissing();
        noMore();
        formGoesBeforeFaults();
        noSuchThing();
        otherProperties();
        indexOfOthers();
        indexTooLargeOrNone();
        writeOfReadOnly();
        wrongKinds();
        noneOfDefault();
        binaryTooLarge();
        firstFaultIsTold();
        faultsChangeNothing();
        BENCH.end();
    }

    private static int[] bytes(int... all) {
        return all;
    }

    /** What a station answers whose things all have the default 1 and a 0 in rank 16. */
    private static void due(String what, int[] data, int... want) {
        Station x = used();
        BENCH.dueBytes(what, Requests.sentUpon(x, data), Requests.sent(want));
    }

    private static Station used() {
        Station x = new Station(3, 7);
        for (int thing = 0; thing < 4; thing++) {
            x.set(thing, 0, 1, false);
            x.set(thing, 16, 0, false);
        }
        return x;
    }

    private static void malformed(String what, int[] data) {
        due(what, data, Requests.malformed());
    }

    private static void tooFewBytes() {
        BENCH.sentence("There is none unless it has 6 bytes or more");
        int[] service14 = {1, 4, 0, 4, 77, 14};
        for (int n = 0; n <= 5; n++) {
            due("the first " + n, Bench.first(service14, n));
        }
        due("6 bytes", service14, 1, 0, 96, 77, 9);
        due("40 bytes", Arrays.copyOf(service14, 40), 1, 0, 96, 77, 9);
    }

    private static void otherBegins() {
        BENCH.sentence("and begins 1 4 0");
        int[] begin = {1, 4, 0};
        for (int place = 0; place < 3; place++) {
            for (int b = 0; b <= 255; b++) {
                int[] data = {1, 4, 0, 4, 77, 14};
                data[place] = b;
                boolean is = b == begin[place];
                due(b + " in place " + place, data, is ? bytes(1, 0, 96, 77, 9) : bytes());
            }
        }
    }

    private static void anyByteAndId() {
        BENCH.sentence("then one byte, an ID and a SERVICE follow.");
        for (int b = 0; b <= 255; b++) {
            due("id " + b, bytes(1, 4, 0, 255 - b, b, 0), 1, 0, 96, b, 9);
        }
        due("id 0 of a read", bytes(1, 4, 0, 4, 0, READ), 1, 0, 96, 0, 4);
        due("id 255 of a write", bytes(1, 4, 0, 4, 255, WRITE), 1, 0, 96, 255, 4);
    }

    private static void otherServices() {
        BENCH.sentence("If that is not 12 (READ) or 15 (WRITE): 1 0 96 id 9.");
        for (int service = 0; service <= 255; service++) {
            int reason = service == READ || service == WRITE ? 4 : 9;
            due("service " + service, bytes(1, 4, 0, 4, 77, service), 1, 0, 96, 77, reason);
        }
    }

    private static void serviceGoesBeforeForm() {
        BENCH.sentence("If that is not 12 (READ) or 15 (WRITE): 1 0 96 id 9.");
        int[] read = Requests.read(INT_0, 85);
        read[5] = 14;
        due("a read but for its service", read, 1, 0, 96, 77, 9);
        due("a service and any bytes", bytes(1, 4, 0, 4, 77, 13, 255, 255), 1, 0, 96, 77, 9);
    }

    private static void intIsMissing() {
        BENCH.sentence("Then has to come: 12 and an int (the class times 4194304, + the number)");
        int[] services = {READ, WRITE};
        for (int service : services) {
            int[] head = {1, 4, 0, 4, 77, service};
            malformed("nothing", head);
            for (int n = 1; n <= 5; n++) {
                malformed(n + " bytes of it", Bench.join(head, Bench.first(INT_0, n)));
            }
        }
        for (int mark = 0; mark <= 255; mark++) {
            int[] read = Requests.read(INT_0, 85);
            read[6] = mark;
            if (mark != 12) {
                malformed("mark " + mark, read);
            }
        }
        malformed("three bytes of an int", bytes(1, 4, 0, 4, 77, READ, 12, 128, 0, 0, 25, 85));
    }

    private static void propertyIsMissing() {
        BENCH.sentence("25 and a PROPERTY");
        malformed("no property", Requests.read(INT_0));
        malformed("no property to write", Requests.write(INT_0));
        for (int mark = 0; mark <= 255; mark++) {
            int[] read = Requests.read(INT_0, 85);
            read[11] = mark;
            if (mark != 25) {
                malformed("mark " + mark, read);
            }
        }
    }

    private static void indexIsMissing() {
        BENCH.sentence("perhaps 41 and an INDEX");
        malformed("41 alone", Requests.read(INT_0, 87, 41));
        malformed("an index alone", Requests.read(INT_0, 87, 1));
        malformed("two of them", Requests.read(INT_0, 87, 41, 1, 41, 1));
        malformed("41 alone before a value", Requests.write(INT_0, 85, 41, 62, 0, 63));
        due("no index", Requests.read(INT_0, 75), Requests.told(INT_0, 75, 62, 196, 0, 128, 0, 0, 63));
        due("an index", Requests.read(INT_0, 87, 41, 1), Requests.told(INT_0, 87, 41, 1, 62, 0, 63));
        due("index 41", Requests.read(INT_0, 87, 41, 41), Requests.fault(READ, 2, 42));
        for (int mark = 0; mark <= 255; mark++) {
            if (mark != 41) {
                malformed("mark " + mark, Requests.read(INT_0, 87, mark, 1));
            }
        }
    }

    private static void valueIsMissing() {
        BENCH.sentence("for 15: 62, a VALUE (0: none; 68 and an int; or 145 and a byte), 63");
        int[][] whole = {
            Requests.write(INT_0, 85, 62, 0, 63), Requests.write(INT_0, 85, 62, 68, 0, 0, 0, 0, 63),
            Requests.write(BINARY_0, 85, 62, 145, 0, 63),
        };
        for (int[] write : whole) {
            due("a whole one", write, Requests.written());
            for (int n = 6; n < write.length; n++) {
                malformed("the first " + n, Bench.first(write, n));
            }
            malformed("a wrong 62", Bench.spoilt(write, 13));
            malformed("a wrong 63", Bench.spoilt(write, write.length - 1));
        }
        malformed("for 12", Requests.read(INT_0, 85, 62, 0, 63));
        malformed("no value between 62 and 63", Requests.write(INT_0, 85, 62, 63));
    }

    private static void wrongValues() {
        BENCH.sentence("a VALUE (0: none; 68 and an int; or 145 and a byte)");
        for (int mark = 1; mark <= 255; mark++) {
            malformed("mark " + mark + " alone", Requests.write(INT_0, 85, 62, mark, 63));
            if (mark != 145) {
                malformed("mark " + mark + " and a byte", Requests.write(BINARY_0, 85, 62, mark, 1, 63));
            }
            if (mark != 68) {
                malformed("mark " + mark + " and an int", Requests.write(INT_0, 85, 62, mark, 0, 0, 0, 1, 63));
            }
        }
        malformed("0 and a byte", Requests.write(BINARY_0, 85, 62, 0, 0, 63));
        malformed("68 and three bytes", Requests.write(INT_0, 85, 62, 68, 0, 0, 0, 63));
        malformed("68 and five bytes", Requests.write(INT_0, 85, 62, 68, 0, 0, 0, 0, 0, 63));
        malformed("145 and two bytes", Requests.write(BINARY_0, 85, 62, 145, 0, 0, 63));
    }

    private static void rankTooSmallOrLarge() {
        BENCH.sentence("and perhaps 73 and a RANK from 1 to 16");
        for (int rank = 0; rank <= 255; rank++) {
            int[] write = Requests.write(INT_0, 85, 62, 68, 0, 0, 0, 5, 63, 73, rank);
            if (rank < 1 || rank > 16) {
                malformed("rank " + rank, write);
            } else {
                due("rank " + rank, write, Requests.written());
            }
        }
        malformed("rank 0 of a default", Requests.write(INT_0, 104, 62, 68, 0, 0, 0, 5, 63, 73, 0));
        malformed("rank 17 of a default", Requests.write(INT_0, 104, 62, 68, 0, 0, 0, 5, 63, 73, 17));
        malformed("rank 17 for none", Requests.write(INT_0, 85, 62, 0, 63, 73, 17));
    }

    private static void rankIsMissing() {
        BENCH.sentence("and perhaps 73 and a RANK from 1 to 16");
        malformed("73 alone", Requests.write(INT_0, 85, 62, 0, 63, 73));
        malformed("a rank alone", Requests.write(INT_0, 85, 62, 0, 63, 1));
        for (int mark = 0; mark <= 255; mark++) {
            if (mark != 73) {
                malformed("mark " + mark, Requests.write(INT_0, 85, 62, 0, 63, mark, 1));
            }
        }
        malformed("73 and a rank in a read", Requests.read(INT_0, 85, 73, 1));
    }

    private static void noMore() {
        BENCH.sentence("and no more; else: 1 0 96 id 4.");
        int[][] whole = {
            Requests.read(INT_0, 85), Requests.read(INT_0, 87, 41, 1), Requests.write(INT_0, 85, 62, 0, 63),
            Requests.write(INT_0, 85, 62, 0, 63, 73, 16), Requests.write(BINARY_1, 104, 62, 145, 1, 63),
        };
        for (int[] data : whole) {
            BENCH.due("it is answered", Requests.sentUpon(used(), data)[10] != 96, true);
            malformed("one byte more", Bench.join(data, bytes(0)));
            malformed("40 bytes", Arrays.copyOf(data, 40));
        }
        malformed("two ranks", Requests.write(INT_0, 85, 62, 0, 63, 73, 16, 73, 16));
        malformed("two values", Requests.write(INT_0, 85, 62, 0, 63, 62, 0, 63));
    }

    private static void formGoesBeforeFaults() {
        BENCH.sentence("Else 1 0 80 id service 145 x 145 y");
        malformed("no such thing, and more", Requests.read(NO_THING, 85, 0));
        malformed("no such property, and more", Requests.read(INT_0, 1, 0));
        malformed("87 without index, and rank 0", Requests.write(INT_0, 87, 62, 0, 63, 73, 0));
        malformed("a 145 of 2, and no 63", Requests.write(BINARY_0, 85, 62, 145, 2));
    }

    private static void noSuchThing() {
        BENCH.sentence("1 31: there is no such thing.");
        int[][] places = {
            {12, 0, 0, 0, 0}, {12, 0, 0, 0, 1}, {12, 0, 64, 0, 0}, {12, 0, 127, 255, 255}, {12, 0, 128, 0, 2},
            {12, 0, 128, 1, 0}, {12, 0, 192, 0, 0}, {12, 0, 255, 255, 255}, {12, 1, 0, 0, 2}, {12, 1, 0, 1, 0},
            {12, 1, 64, 0, 0}, {12, 2, 0, 0, 0}, {12, 128, 128, 0, 0}, {12, 129, 0, 0, 0}, {12, 255, 255, 255, 255},
        };
        for (int[] place : places) {
            due("read of " + Arrays.toString(place), Requests.read(place, 85), Requests.fault(READ, 1, 31));
            due("write of " + Arrays.toString(place), Requests.write(place, 85, 62, 0, 63),
                Requests.fault(WRITE, 1, 31));
        }
        for (int[] place : Requests.PLACES) {
            due("a thing", Requests.write(place, 85, 62, 0, 63), Requests.written());
        }
    }

    private static void otherProperties() {
        BENCH.sentence("2 32: the property is not 75, 85, 87 or 104.");
        for (int property = 0; property <= 255; property++) {
            if (property != 75 && property != 85 && property != 87 && property != 104) {
                due("read of " + property, Requests.read(BINARY_1, property), Requests.fault(READ, 2, 32));
                due("write of " + property, Requests.write(INT_1, property, 62, 0, 63),
                    Requests.fault(WRITE, 2, 32));
            }
        }
    }

    private static void indexOfOthers() {
        BENCH.sentence("2 50: there is an index, and the property is not 87.");
        int[] properties = {75, 85, 104};
        int[] indices = {0, 1, 16, 17, 255};
        for (int property : properties) {
            for (int index : indices) {
                due("read of " + property, Requests.read(INT_0, property, 41, index), Requests.fault(READ, 2, 50));
                due("write of " + property, Requests.write(INT_0, property, 41, index, 62, 0, 63),
                    Requests.fault(WRITE, 2, 50));
            }
        }
    }

    private static void indexTooLargeOrNone() {
        BENCH.sentence("2 42: it is 87, and there is none, or it is more than 16.");
        due("no index", Requests.read(INT_0, 87), Requests.fault(READ, 2, 42));
        due("no index to write", Requests.write(INT_0, 87, 62, 0, 63), Requests.fault(WRITE, 2, 42));
        for (int index = 17; index <= 255; index++) {
            due("index " + index, Requests.read(INT_0, 87, 41, index), Requests.fault(READ, 2, 42));
        }
        due("index 17 to write", Requests.write(INT_0, 87, 41, 17, 62, 0, 63), Requests.fault(WRITE, 2, 42));
        for (int index = 1; index <= 15; index++) {
            due("index " + index, Requests.read(INT_0, 87, 41, index),
                Requests.told(INT_0, 87, 41, index, 62, 0, 63));
        }
        due("index 0", Requests.read(INT_0, 87, 41, 0), Requests.told(INT_0, 87, 41, 0, 62, 33, 16, 63));
        due("index 16", Requests.read(INT_0, 87, 41, 16),
            Requests.told(INT_0, 87, 41, 16, 62, 68, 0, 0, 0, 0, 63));
    }

    private static void writeOfReadOnly() {
        BENCH.sentence("2 40: it is written, and it is 75 or 87.");
        for (int[] place : Requests.PLACES) {
            due("75", Bench.join(Requests.write(place, 75), ZERO), Requests.fault(WRITE, 2, 40));
            due("87, index 0", Bench.join(Requests.write(place, 87, 41, 0), ZERO), Requests.fault(WRITE, 2, 40));
            due("87, index 16", Requests.write(place, 87, 41, 16, 62, 0, 63), Requests.fault(WRITE, 2, 40));
            due("75, none", Requests.write(place, 75, 62, 0, 63), Requests.fault(WRITE, 2, 40));
            due("75, 145 2", Requests.write(place, 75, 62, 145, 2, 63), Requests.fault(WRITE, 2, 40));
        }
    }

    private static void wrongKinds() {
        BENCH.sentence("2 9: what is written is not 68 for class 2 or 145 for class 4, nor none for 85.");
        int[] properties = {85, 104};
        for (int property : properties) {
            for (int thing = 0; thing < 4; thing++) {
                boolean binary = thing > 1;
                int[] place = Requests.PLACES[thing];
                due("68 for thing " + thing, Bench.join(Requests.write(place, property), ZERO),
                    binary ? Requests.fault(WRITE, 2, 9) : Requests.written());
                due("145 for thing " + thing, Requests.write(place, property, 62, 145, 1, 63),
                    binary ? Requests.written() : Requests.fault(WRITE, 2, 9));
            }
        }
    }

    private static void noneOfDefault() {
        BENCH.sentence("nor none for 85.");
        for (int[] place : Requests.PLACES) {
            due("none for 85", Requests.write(place, 85, 62, 0, 63), Requests.written());
            due("none for 85, rank 1", Requests.write(place, 85, 62, 0, 63, 73, 1), Requests.written());
            due("none for 104", Requests.write(place, 104, 62, 0, 63), Requests.fault(WRITE, 2, 9));
            due("none for 104, rank 1", Requests.write(place, 104, 62, 0, 63, 73, 1), Requests.fault(WRITE, 2, 9));
        }
    }

    private static void binaryTooLarge() {
        BENCH.sentence("2 37: a 145 of more than 1.");
        for (int value = 0; value <= 255; value++) {
            int[] want = value > 1 ? Requests.fault(WRITE, 2, 37) : Requests.written();
            due("value " + value, Requests.write(BINARY_0, 85, 62, 145, value, 63), want);
            due("default " + value, Requests.write(BINARY_1, 104, 62, 145, value, 63), want);
        }
    }

    /** Each request has one fault and all that are behind it in the document's order. */
    private static void firstFaultIsTold() {
        BENCH.sentence("with the first x y that holds");
        due("no such thing", Requests.write(NO_THING, 86, 41, 17, 62, 145, 2, 63), Requests.fault(WRITE, 1, 31));
        due("no such thing, and 87", Requests.write(NO_THING, 87, 62, 145, 2, 63), Requests.fault(WRITE, 1, 31));
        due("no such property", Requests.write(INT_0, 86, 41, 17, 62, 145, 2, 63), Requests.fault(WRITE, 2, 32));
        due("an index", Requests.write(INT_0, 75, 41, 17, 62, 145, 2, 63), Requests.fault(WRITE, 2, 50));
        due("an index of 104", Requests.write(INT_0, 104, 41, 1, 62, 145, 2, 63), Requests.fault(WRITE, 2, 50));
        due("index 17", Requests.write(INT_0, 87, 41, 17, 62, 145, 2, 63), Requests.fault(WRITE, 2, 42));
        due("it is written", Requests.write(INT_0, 87, 41, 1, 62, 145, 2, 63), Requests.fault(WRITE, 2, 40));
        due("a wrong kind", Requests.write(INT_0, 85, 62, 145, 2, 63), Requests.fault(WRITE, 2, 9));
    }

    private static void faultsChangeNothing() {
        BENCH.sentence("Else a write puts the value");
        int[][] refused = {
            Requests.write(NO_THING, 85, 62, 68, 0, 0, 0, 9, 63), Requests.write(INT_0, 86, 62, 68, 0, 0, 0, 9, 63),
            Requests.write(INT_0, 85, 41, 1, 62, 68, 0, 0, 0, 9, 63),
            Requests.write(INT_0, 87, 41, 16, 62, 68, 0, 0, 0, 9, 63),
            Requests.write(INT_0, 85, 62, 145, 1, 63), Requests.write(BINARY_0, 85, 62, 145, 2, 63),
            Requests.write(INT_0, 85, 62, 68, 0, 0, 0, 9, 63, 73, 17), Requests.write(INT_0, 85, 62, 68, 0, 0, 0, 9),
        };
        for (int[] data : refused) {
            Station x = used();
            Requests.sentUpon(x, data);
            for (int thing = 0; thing < 4; thing++) {
                BENCH.due("the rank stays", x.present(thing), 0);
                x.set(thing, 16, 0, true);
                BENCH.due("the default stays", x.present(thing), 1);
            }
        }
    }
}
