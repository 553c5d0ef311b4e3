import java.util.Random;

/** Promises 1 to 11: long runs of calls, chosen by fixed numbers, held against the Model. */
public final class ModelTest {
    private static final Bench BENCH = new Bench("ModelTest");
    private static final int RUNS = 12000;
    // What looking at all that an object tells takes at most, and one step before it.
    private static final int LAST_LOOK = 170;
    private static final int[] PROPERTIES = {75, 85, 87, 104, 85, 87, 76};
    private static final int[] STILLNESS = {2, 4, 6, 9};
    private static final int[] MARKS = {0, 12, 15, 25, 41, 62, 63, 68, 73, 145};

    private final int run;
    private final Random chance;
    private final Station x;
    private final Model model;
    private int steps = 0;

    private ModelTest(int run) {
        this.run = run;
        chance = new Random(run);
        int station = chance.nextInt(20) - 2;
        int most = chance.nextInt(4) == 0 ? chance.nextInt(20) - 2 : chance.nextInt(5) + 1;
        x = new Station(station, most);
        model = new Model(station, most);
    }

    public static void main(String[] args) {
        boolean[] seen = new boolean[8];
        for (int run = 0; run < RUNS; run++) {
            new ModelTest(run).walk(seen);
        }
        for (int state : new int[] {0, 2, 4, 5, 6}) {
            BENCH.due("state " + state + " was seen", seen[state], true);
        }
        BENCH.end();
    }

    private void walk(boolean[] seen) {
        int stillness = STILLNESS[chance.nextInt(STILLNESS.length)];
        while (goesOn()) {
            int choice = chance.nextInt(20);
            if (chance.nextInt(10) < stillness) {
                quiet(ticks());
            } else if (choice < 12) {
                frame();
            } else if (choice < 14) {
                hear(chance.nextInt(40) == 0 ? 256 : chance.nextInt(256));
            } else if (choice < 17) {
                ask();
            } else {
                set();
            }
            seen[model.state] = true;
        }
        lookAtAll();
    }

    private boolean goesOn() {
        return x.callsLeft() > LAST_LOOK;
    }

    private int ticks() {
        switch (chance.nextInt(6)) {
            case 0: return 1 + chance.nextInt(5);
            case 1: return 19 + chance.nextInt(3);
            case 2: return 100;
            case 3: return 20;
            case 4: return 1 + chance.nextInt(100);
            default: return chance.nextInt(104) - 1;
        }
    }

    private void frame() {
        int to = chance.nextInt(12) == 0 ? 255 : chance.nextInt(8) == 0 ? chance.nextInt(17) : model.own;
        int from = chance.nextInt(model.most + 2);
        int[] bytes = Bench.frame(type(), to, from, data());
        if (chance.nextInt(40) == 0) {
            bytes = Bench.header(type(), to, from, 38 + chance.nextInt(6));
        }
        if (chance.nextInt(12) == 0) {
            bytes = Bench.spoilt(bytes, chance.nextInt(bytes.length));
        }
        int end = chance.nextInt(12) == 0 ? chance.nextInt(bytes.length) : bytes.length;
        boolean gaps = chance.nextInt(10) == 0;
        for (int i = 0; i < end && goesOn(); i++) {
            hear(bytes[i]);
            if (gaps && goesOn() && chance.nextInt(4) == 0) {
                quiet(1 + chance.nextInt(4));
            }
        }
    }

    private int type() {
        int[] fitting = {0, 5, 6, 5, 2, 5, 2};
        return chance.nextInt(3) == 0 ? chance.nextInt(9) : fitting[model.state];
    }

    private int[] data() {
        switch (chance.nextInt(4)) {
            case 0: return new int[0];
            case 1: return chance.ints(chance.nextInt(41), 0, 256).toArray();
            default: return request();
        }
    }

    private int[] request() {
        boolean write = chance.nextBoolean();
        int[] all = {1, 4, 0, 4, chance.nextInt(256), chance.nextInt(12) == 0 ? 14 : write ? 15 : 12};
        int[] place = {12, 0, 128, 0, chance.nextInt(20) == 0 ? 2 : chance.nextInt(2), 25,
            PROPERTIES[chance.nextInt(PROPERTIES.length)]};
        if (chance.nextBoolean()) {
            place[1] = 1;
            place[2] = 0;
        }
        all = Bench.join(all, place);
        if (chance.nextInt(8) == 0 != (place[6] == 87)) {
            all = Bench.join(all, new int[] {41, chance.nextInt(18)});
        }
        if (write) {
            all = Bench.join(all, new int[] {62}, value(place[1] == 1), new int[] {63});
            if (chance.nextBoolean()) {
                all = Bench.join(all, new int[] {73, chance.nextInt(18)});
            }
        }
        return chance.nextInt(8) == 0 ? changed(all) : all;
    }

    private int[] value(boolean binary) {
        if (chance.nextInt(5) == 0) {
            return new int[] {0};
        }
        if (chance.nextInt(10) == 0 != binary) {
            return new int[] {145, chance.nextInt(3)};
        }
        return Bench.join(new int[] {68}, chance.ints(4, 0, 256).toArray());
    }

    private int[] changed(int[] all) {
        switch (chance.nextInt(3)) {
            case 0: return Bench.first(all, chance.nextInt(all.length));
            case 1: return Bench.join(all, new int[] {MARKS[chance.nextInt(MARKS.length)]});
            default:
                int[] copy = all.clone();
                copy[chance.nextInt(copy.length)] = MARKS[chance.nextInt(MARKS.length)];
                return copy;
        }
    }

    private void hear(int b) {
        same("hear(" + b + ")", x.hear(b), model.hear(b));
    }

    private void quiet(int n) {
        same("quiet(" + n + ")", x.quiet(n), model.quiet(n));
    }

    private void ask() {
        int to = chance.nextInt(model.most + 3) - 1;
        int id = chance.nextInt(258) - 1;
        int cls = chance.nextInt(1026) - 1;
        int number = chance.nextInt(4194306) - 1;
        int property = chance.nextInt(258) - 1;
        same("ask", x.ask(to, id, cls, number, property) ? 1 : 0, model.ask(to, id, cls, number, property) ? 1 : 0);
    }

    private void set() {
        int thing = chance.nextInt(6) - 1;
        int r = chance.nextInt(19) - 1;
        int value = chance.nextInt(3) == 0 ? chance.nextInt() : chance.nextInt(3);
        boolean none = chance.nextInt(4) == 0;
        same("set", x.set(thing, r, value, none) ? 1 : 0, model.set(thing, r, value, none) ? 1 : 0);
    }

    private void same(String call, int got, int want) {
        steps++;
        BENCH.due(step(call), got, want);
        BENCH.due(step(call + ", state()"), x.state(), model.stateAnswer());
        switch (chance.nextInt(8)) {
            case 0: lookAtSilence(); break;
            case 1: lookAtSent(); break;
            case 2: lookAtPresent(chance.nextInt(4)); break;
            default: break;
        }
    }

    private String step(String what) {
        return "run " + run + ", step " + steps + ", " + what;
    }

    private void lookAtAll() {
        lookAtSilence();
        lookAtSent();
        BENCH.due(step("replied()"), x.replied(), model.reply.size());
        BENCH.dueBytes(step("reply()"), Bench.replyBytes(x), Model.ints(model.reply));
        for (int thing = -1; thing <= 4; thing++) {
            lookAtPresent(thing);
        }
    }

    private void lookAtSilence() {
        BENCH.due(step("silence()"), x.silence(), Math.min(1000, model.silence));
    }

    private void lookAtSent() {
        BENCH.dueBytes(step("sent()"), Bench.sentBytes(x), Model.ints(model.sent));
    }

    private void lookAtPresent(int thing) {
        BENCH.due(step("present(" + thing + ")"), x.present(thing), model.present(thing));
    }
}
