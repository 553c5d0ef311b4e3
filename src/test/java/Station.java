/** A PassedToken that is used for no more than the calls for which the document speaks. */
final class Station {
    static final int MOST_CALLS = 512;

    private final PassedToken x;
    private int calls = 0;

    Station(int station, int most) {
        x = new PassedToken(station, most);
    }

    int callsLeft() {
        return MOST_CALLS - calls;
    }

    int hear(int b) {
        return counted().hear(b);
    }

    int quiet(int n) {
        return counted().quiet(n);
    }

    int sent(int i) {
        return counted().sent(i);
    }

    boolean ask(int to, int id, int cls, int number, int property) {
        return counted().ask(to, id, cls, number, property);
    }

    int replied() {
        return counted().replied();
    }

    int reply(int i) {
        return counted().reply(i);
    }

    int state() {
        return counted().state();
    }

    int silence() {
        return counted().silence();
    }

    boolean set(int thing, int r, int value, boolean none) {
        return counted().set(thing, r, value, none);
    }

    int present(int thing) {
        return counted().present(thing);
    }

    private PassedToken counted() {
        if (calls == MOST_CALLS) {
            throw new IllegalStateException("the test itself is wrong: what a call behind the 512th answers is free");
        }
        calls++;
        return x;
    }
}
