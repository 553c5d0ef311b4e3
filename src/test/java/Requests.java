/** The data of requests for things, all of id 77, and of what is answered to them. */
final class Requests {
    static final int[] INT_0 = {12, 0, 128, 0, 0};
    static final int[] INT_1 = {12, 0, 128, 0, 1};
    static final int[] BINARY_0 = {12, 1, 0, 0, 0};
    static final int[] BINARY_1 = {12, 1, 0, 0, 1};
    static final int[][] PLACES = {INT_0, INT_1, BINARY_0, BINARY_1};
    static final int READ = 12;
    static final int WRITE = 15;

    private Requests() {
    }

    static int[] bytes(int... all) {
        return all;
    }

    /** A request up to the property's 25. */
    private static int[] begin(int service, int[] place) {
        return Bench.join(bytes(1, 4, 0, 4, 77, service), place, bytes(25));
    }

    static int[] read(int[] place, int... rest) {
        return Bench.join(begin(READ, place), rest);
    }

    static int[] write(int[] place, int... rest) {
        return Bench.join(begin(WRITE, place), rest);
    }

    static int[] told(int[] place, int... rest) {
        return Bench.join(bytes(1, 0, 48, 77, READ), place, bytes(25), rest);
    }

    static int[] written() {
        return bytes(1, 0, 32, 77, WRITE);
    }

    static int[] fault(int service, int x, int y) {
        return bytes(1, 0, 80, 77, service, 145, x, 145, y);
    }

    static int[] malformed() {
        return bytes(1, 0, 96, 77, 4);
    }

    /** What a station 3 sends when 9 sends it a request with these data. */
    static int[] sentUpon(Station x, int... data) {
        return Bench.upon(x, Bench.frame(5, 3, 9, data));
    }

    /** What it is due to send with this answer, or without one when that is empty. */
    static int[] sent(int... answer) {
        return answer.length == 0 ? answer : Bench.frame(6, 9, 3, answer);
    }
}
