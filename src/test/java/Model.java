import java.util.ArrayList;
import java.util.List;
import java.util.regex.Matcher;
import java.util.regex.Pattern;

/**
 * The document once more, in its own order of words and by other means (lists, texts and patterns),
 * so that a slip in the program is not likely to be made here as well.
 */
final class Model {
    private static final String PLACE = "\\x0c(.{4})\\x19(.)(?:\\x29(.))?";
    private static final Pattern READ = Pattern.compile(PLACE, Pattern.DOTALL);
    private static final Pattern WRITE = Pattern.compile(
        PLACE + "\\x3e(\\x00|\\x44.{4}|\\x91.)\\x3f(?:\\x49([\\x01-\\x10]))?", Pattern.DOTALL);

    final int own;
    final int most;
    final Integer[][] ranks = new Integer[4][16];
    final int[] defaults = new int[4];
    List<Integer> sent = new ArrayList<>();
    List<Integer> reply = new ArrayList<>();
    List<Integer> waiting = null;
    int waitingTo;
    int silence = 0;
    int events = 0;
    int state = 0;
    int next;
    int polled;
    int tokens = 0;
    int tries = 0;
    boolean sole = false;

    private final List<Integer> coming = new ArrayList<>();
    private List<Integer> heard = null;
    private boolean invalid = false;

    Model(int station, int most) {
        this.most = most < 1 ? 1 : most > 15 ? 15 : most;
        this.own = station < 0 ? 0 : station > this.most ? this.most : station;
        next = own;
        polled = own;
    }

    int hear(int b) {
        if (b < 0 || b > 255) {
            return -1;
        }
        sent = new ArrayList<>();
        silence = 0;
        events++;
        frameByte(b);
        lines();
        return sent.size();
    }

    int quiet(int n) {
        if (n < 1 || n > 100) {
            return -1;
        }
        sent = new ArrayList<>();
        for (int i = 0; i < n; i++) {
            silence++;
            if (silence == 4 && coming.size() >= 2) {
                invalid = true;
                coming.clear();
            }
            lines();
        }
        return sent.size();
    }

    boolean ask(int to, int id, int cls, int number, int property) {
        if (to < 0 || to > most || to == own || id < 0 || id > 255 || property < 0 || property > 255
            || cls < 0 || cls > 1023 || number < 0 || number > 4194303) {
            return false;
        }
        waitingTo = to;
        waiting = new ArrayList<>(List.of(1, 4, 0, 4, id, 12, 12));
        addInt(waiting, cls * 4194304L + number);
        waiting.addAll(List.of(25, property));
        return true;
    }

    boolean set(int thing, int r, int value, boolean none) {
        if (thing < 0 || thing > 3 || r < 0 || r > 16 || (none && r == 0)) {
            return false;
        }
        if (!none && thing > 1 && value != 0 && value != 1) {
            return false;
        }
        if (r == 0) {
            defaults[thing] = value;
        } else {
            ranks[thing][r - 1] = none ? null : Integer.valueOf(value);
        }
        return true;
    }

    int present(int thing) {
        if (thing < 0 || thing > 3) {
            return 0;
        }
        for (Integer value : ranks[thing]) {
            if (value != null) {
                return value;
            }
        }
        return defaults[thing];
    }

    int stateAnswer() {
        return state + 8 * next + 128 * polled + (sole ? 2048 : 0) + (waiting != null ? 4096 : 0);
    }

    private void frameByte(int b) {
        int size = coming.size();
        if (size == 0 && b != 85) {
            return;
        }
        if (size == 1 && b == 85) {
            return;
        }
        if (size == 1 && b != 255) {
            coming.clear();
            return;
        }
        coming.add(b);
        size++;
        if (size < 8) {
            return;
        }
        int n = coming.get(5) * 256 + coming.get(6);
        boolean headerRight = coming.get(7) == Bench.headerCheck(ints(coming.subList(2, 7)));
        if (!headerRight || n > 40) {
            invalid = true;
            coming.clear();
        } else if (n == 0) {
            end(new ArrayList<>(coming));
        } else if (size == 10 + n) {
            int check = Bench.dataCheck(ints(coming.subList(8, 8 + n)));
            if (coming.get(8 + n) + 256 * coming.get(9 + n) == check) {
                end(new ArrayList<>(coming));
            } else {
                invalid = true;
                coming.clear();
            }
        }
    }

    private void end(List<Integer> frame) {
        coming.clear();
        if (frame.get(3) == own || frame.get(3) == 255) {
            heard = frame;
        }
    }

    private void lines() {
        boolean one = line();
        heard = null;
        invalid = false;
        while (one) {
            one = line();
        }
    }

    private boolean line() {
        int type = heard == null ? -1 : heard.get(2);
        boolean toOwn = heard != null && heard.get(3) == own;
        int from = heard == null ? -1 : heard.get(4);
        switch (state) {
            case 0:
                if (toOwn) {
                    idle(type, from);
                    return true;
                }
                if (silence >= 500) {
                    events = 0;
                    state = 5;
                    return true;
                }
                return false;
            case 1:
                if (waiting != null) {
                    send(5, waitingTo, waiting);
                    waiting = null;
                    state = 2;
                    return true;
                }
                state = 3;
                return true;
            case 2:
                if (heard != null) {
                    if (toOwn && type == 6) {
                        reply = data();
                        state = 3;
                    } else if (toOwn && (type == 4 || type == 7)) {
                        state = 3;
                    } else {
                        state = 0;
                    }
                    return true;
                }
                if (invalid || silence >= 255) {
                    state = 3;
                    return true;
                }
                return false;
            case 3:
                done();
                return true;
            case 4:
                return passing();
            case 5:
                if (events > 4) {
                    state = 0;
                    return true;
                }
                if (silence >= 500 + 10 * own) {
                    polled = plusOne(own);
                    poll();
                    next = own;
                    tokens = 0;
                    state = 6;
                    return true;
                }
                return false;
            default:
                return polling(type, toOwn, from);
        }
    }

    private void idle(int type, int from) {
        if (type == 0) {
            sole = false;
            state = 1;
        } else if (type == 1) {
            send(2, from, List.of());
        } else if (type == 3) {
            send(4, from, data());
        } else if (type == 5) {
            List<Integer> answer = answer(data());
            if (answer != null) {
                send(6, from, answer);
            }
        }
    }

    private void done() {
        if (!sole && next == own) {
            polled = plusOne(own);
            poll();
            state = 6;
        } else if (tokens < 3) {
            tokens++;
            if (sole) {
                state = 1;
            } else {
                tries = 0;
                pass();
                state = 4;
            }
        } else if (plusOne(polled) != next) {
            polled = plusOne(polled);
            poll();
            state = 6;
        } else if (sole) {
            polled = plusOne(next);
            poll();
            next = own;
            tokens = 1;
            state = 6;
        } else {
            polled = own;
            tries = 0;
            tokens = 1;
            pass();
            state = 4;
        }
    }

    private boolean passing() {
        if (silence < 20 && events > 4) {
            state = 0;
            return true;
        }
        if (silence >= 20 && tries == 0) {
            tries = 1;
            pass();
            return true;
        }
        if (silence >= 20) {
            polled = plusOne(next);
            poll();
            next = own;
            tokens = 0;
            state = 6;
            return true;
        }
        return false;
    }

    private boolean polling(int type, boolean toOwn, int from) {
        if (heard != null) {
            if (toOwn && type == 2 && from >= 0 && from <= most && from != own) {
                sole = false;
                next = from;
                polled = own;
                tokens = 0;
                tries = 0;
                pass();
                state = 4;
            } else {
                state = 0;
            }
            return true;
        }
        if (!invalid && silence < 20) {
            return false;
        }
        if (sole) {
            state = 1;
        } else if (next != own) {
            tries = 0;
            pass();
            state = 4;
        } else if (plusOne(polled) != own) {
            polled = plusOne(polled);
            poll();
        } else {
            sole = true;
            state = 1;
        }
        return true;
    }

    private int plusOne(int number) {
        return (number + 1) % (most + 1);
    }

    private void poll() {
        send(1, polled, List.of());
    }

    private void pass() {
        send(0, next, List.of());
        events = 0;
    }

    private void send(int type, int to, List<Integer> data) {
        for (int b : Bench.frame(type, to, own, ints(data))) {
            sent.add(b);
        }
        silence = 0;
    }

    private List<Integer> data() {
        return heard.size() == 8 ? new ArrayList<>() : new ArrayList<>(heard.subList(8, heard.size() - 2));
    }

    private List<Integer> answer(List<Integer> data) {
        if (data.size() < 6 || !data.subList(0, 3).equals(List.of(1, 4, 0))) {
            return null;
        }
        int id = data.get(4);
        int service = data.get(5);
        if (service != 12 && service != 15) {
            return List.of(1, 0, 96, id, 9);
        }
        Matcher m = (service == 12 ? READ : WRITE).matcher(text(data.subList(6, data.size())));
        if (!m.matches()) {
            return List.of(1, 0, 96, id, 4);
        }
        int thing = List.of("\0\u0080\0\0", "\0\u0080\0\1", "\1\0\0\0", "\1\0\0\1").indexOf(m.group(1));
        int property = m.group(2).charAt(0);
        int index = m.group(3) == null ? -1 : m.group(3).charAt(0);
        int[] fault = fault(thing, property, index, service == 15 ? m.group(4) : null);
        if (fault != null) {
            return List.of(1, 0, 80, id, service, 145, fault[0], 145, fault[1]);
        }
        if (service == 15) {
            write(thing, property, m.group(4), m.group(5));
            return List.of(1, 0, 32, id, 15);
        }
        List<Integer> all = new ArrayList<>(List.of(1, 0, 48, id, 12));
        all.addAll(data.subList(6, data.size()));
        all.add(62);
        all.addAll(told(thing, property, index, m.group(1)));
        all.add(63);
        return all;
    }

    private static int[] fault(int thing, int property, int index, String written) {
        if (thing < 0) {
            return new int[] {1, 31};
        }
        if (!List.of(75, 85, 87, 104).contains(property)) {
            return new int[] {2, 32};
        }
        if (index >= 0 && property != 87) {
            return new int[] {2, 50};
        }
        if (property == 87 && (index < 0 || index > 16)) {
            return new int[] {2, 42};
        }
        if (written == null) {
            return null;
        }
        if (property == 75 || property == 87) {
            return new int[] {2, 40};
        }
        int mark = written.charAt(0);
        if (mark != (thing < 2 ? 68 : 145) && !(mark == 0 && property == 85)) {
            return new int[] {2, 9};
        }
        return mark == 145 && written.charAt(1) > 1 ? new int[] {2, 37} : null;
    }

    private void write(int thing, int property, String written, String rank) {
        int r = property == 104 ? 0 : rank == null ? 16 : rank.charAt(0);
        int value = 0;
        for (int i = 1; i < written.length(); i++) {
            value = value * 256 + written.charAt(i);
        }
        set(thing, r, value, written.length() == 1);
    }

    private List<Integer> told(int thing, int property, int index, String place) {
        List<Integer> all = new ArrayList<>();
        if (property == 75) {
            all.add(196);
            for (char c : place.toCharArray()) {
                all.add((int) c);
            }
            return all;
        }
        if (property == 87 && index == 0) {
            return List.of(33, 16);
        }
        Integer value = property == 85 ? (Integer) present(thing)
            : property == 104 ? (Integer) defaults[thing] : ranks[thing][index - 1];
        if (value == null) {
            return List.of(0);
        }
        if (thing > 1) {
            return List.of(145, value);
        }
        all.add(68);
        addInt(all, value & 0xffffffffL);
        return all;
    }

    private static void addInt(List<Integer> all, long value) {
        for (long part = 16777216; part > 0; part /= 256) {
            all.add((int) (value / part % 256));
        }
    }

    private static String text(List<Integer> bytes) {
        StringBuilder b = new StringBuilder();
        for (int one : bytes) {
            b.append((char) one);
        }
        return b.toString();
    }

    static int[] ints(List<Integer> list) {
        return list.stream().mapToInt(Integer::intValue).toArray();
    }
}
