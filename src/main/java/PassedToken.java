/** A station on a line on which those who may speak pass a token on. */
public final class PassedToken {
    public static final int BAD = -1;

    private static final int LEAST_MOST = 1;
    private static final int MOST_MOST = 15;
    private static final int MOST_TICKS = 100;
    private static final int MOST_SILENCE_TOLD = 1000;
    private static final int MOST_CLASS = 1023;
    private static final int MOST_NUMBER = 4194303;
    private static final int CLASS_STEP = 4194304;
    private static final int MOST_BYTE = 255;
    private static final int TO_ALL = 255;
    private static final int MOST_DATA = 40;
    private static final int RANKS = 16;

    // 100 ticks send at most five frames, one byte at most one of 50 bytes: both stay below this.
    private static final int MOST_SENT = 128;
    // The longest chain goes from polling through three uses of a token to polling again.
    private static final int MOST_LINES = 64;

    private static final int IDLE = 0;
    private static final int USE = 1;
    private static final int WAIT = 2;
    private static final int DONE = 3;
    private static final int PASSING = 4;
    private static final int LOST = 5;
    private static final int POLLING = 6;

    private static final int TYPE_TOKEN = 0;
    private static final int TYPE_POLL = 1;
    private static final int TYPE_HERE_I_AM = 2;
    private static final int TYPE_ECHO = 3;
    private static final int TYPE_ECHOED = 4;
    private static final int TYPE_REQUEST = 5;
    private static final int TYPE_REPLY = 6;
    private static final int TYPE_LATER = 7;

    private static final int TICKS_LOST = 500;
    private static final int TICKS_LOST_EACH = 10;
    private static final int TICKS_REPLY = 255;
    private static final int TICKS_USED = 20;
    private static final int FEW_EVENTS = 4;
    private static final int TOKENS_BETWEEN_POLLS = 3;

    private static final int NOTHING = 0;
    private static final int HEARD = 1;
    private static final int INVALID = 2;

    private static final int MARK_REFERENCE = 12;
    private static final int MARK_PROPERTY = 25;
    private static final int READ = 12;

    private final int own;
    private final int most;
    private final Ear ear;
    private final Row out = new Row(MOST_SENT);
    private final Row noData = new Row(0);
    private final Row request = new Row(13);
    private final Row latestReply = new Row(MOST_DATA);
    private final Desk desk = new Desk();

    private int mode = IDLE;
    private int next;
    private int polled;
    private int tokens = 0;
    private int tries = 0;
    private boolean sole = false;
    private int events = 0;
    private int stillness = 0;
    private int requestTo = 0;
    private boolean requestWaits = false;

    public PassedToken(int station, int most) {
        this.most = Math.max(LEAST_MOST, Math.min(MOST_MOST, most));
        this.own = Math.max(0, Math.min(this.most, station));
        this.next = this.own;
        this.polled = this.own;
        this.ear = new Ear(this.own);
    }

    public int hear(int b) {
        if (!isByte(b)) {
            return BAD;
        }
        out.clear();
        stillness = 0;
        events++;
        settle(ear.take(b));
        return out.size();
    }

    public int quiet(int n) {
        if (n < 1 || n > MOST_TICKS) {
            return BAD;
        }
        out.clear();
        for (int i = 0; i < n; i++) {
            stillness++;
            settle(ear.rest(stillness));
        }
        return out.size();
    }

    public int sent(int i) {
        return out.at(i);
    }

    public boolean ask(int to, int id, int cls, int number, int property) {
        if (!isOtherStation(to) || !isByte(id) || !isByte(property)) {
            return false;
        }
        if (cls < 0 || cls > MOST_CLASS || number < 0 || number > MOST_NUMBER) {
            return false;
        }
        request.clear();
        request.put(1);
        request.put(4);
        request.put(0);
        request.put(4);
        request.put(id);
        request.put(READ);
        request.put(MARK_REFERENCE);
        request.putInt(cls * CLASS_STEP + number);
        request.put(MARK_PROPERTY);
        request.put(property);
        requestTo = to;
        requestWaits = true;
        return true;
    }

    public int replied() {
        return latestReply.size();
    }

    public int reply(int i) {
        return latestReply.at(i);
    }

    public int state() {
        return mode + 8 * next + 128 * polled + (sole ? 2048 : 0) + (requestWaits ? 4096 : 0);
    }

    public int silence() {
        return Math.min(stillness, MOST_SILENCE_TOLD);
    }

    public boolean set(int thing, int r, int value, boolean none) {
        Thing meant = desk.thing(thing);
        if (meant == null) {
            return false;
        }
        return none ? meant.takeAway(r) : meant.give(r, value);
    }

    public int present(int thing) {
        Thing meant = desk.thing(thing);
        return meant == null ? 0 : meant.shown();
    }

    private static boolean isByte(int b) {
        return b >= 0 && b <= MOST_BYTE;
    }

    private boolean isOtherStation(int number) {
        return number >= 0 && number <= most && number != own;
    }

    private int behind(int number) {
        return number >= most ? 0 : number + 1;
    }

    /** Does lines until none holds; only the first of them can see what the ear has told. */
    private void settle(int news) {
        int told = news;
        boolean held = true;
        for (int i = 0; held && i < MOST_LINES; i++) {
            switch (mode) {
                case IDLE: held = idleLine(told); break;
                case USE: held = useLine(); break;
                case WAIT: held = waitLine(told); break;
                case DONE: held = doneLine(); break;
                case PASSING: held = passingLine(); break;
                case LOST: held = lostLine(); break;
                default: held = told == HEARD ? answeredLine() : unansweredLine(told); break;
            }
            told = NOTHING;
        }
    }

    private boolean idleLine(int told) {
        if (told == HEARD && ear.to() == own) {
            switch (ear.type()) {
                case TYPE_TOKEN: sole = false; mode = USE; break;
                case TYPE_POLL: send(TYPE_HERE_I_AM, ear.from(), noData); break;
                case TYPE_ECHO: send(TYPE_ECHOED, ear.from(), ear.data()); break;
                case TYPE_REQUEST: sendAnswer(desk.answerTo(ear.data())); break;
                default: break;
            }
            return true;
        }
        if (stillness >= TICKS_LOST) {
            events = 0;
            mode = LOST;
            return true;
        }
        return false;
    }

    private boolean useLine() {
        if (requestWaits) {
            send(TYPE_REQUEST, requestTo, request);
            requestWaits = false;
            mode = WAIT;
        } else {
            mode = DONE;
        }
        return true;
    }

    private boolean waitLine(int told) {
        if (told == HEARD) {
            mode = endsWaiting() ? DONE : IDLE;
            return true;
        }
        if (told == INVALID || stillness >= TICKS_REPLY) {
            mode = DONE;
            return true;
        }
        return false;
    }

    private boolean endsWaiting() {
        if (ear.to() != own) {
            return false;
        }
        if (ear.type() == TYPE_REPLY) {
            latestReply.clear();
            latestReply.putAll(ear.data());
            return true;
        }
        return ear.type() == TYPE_ECHOED || ear.type() == TYPE_LATER;
    }

    private boolean doneLine() {
        if (!sole && next == own) {
            poll(behind(own));
        } else if (tokens < TOKENS_BETWEEN_POLLS) {
            tokens++;
            if (sole) {
                mode = USE;
            } else {
                pass(0);
            }
        } else if (behind(polled) != next) {
            poll(behind(polled));
        } else if (sole) {
            poll(behind(next));
            next = own;
            tokens = 1;
        } else {
            polled = own;
            tokens = 1;
            pass(0);
        }
        return true;
    }

    private boolean passingLine() {
        if (stillness < TICKS_USED) {
            if (events > FEW_EVENTS) {
                mode = IDLE;
                return true;
            }
            return false;
        }
        if (tries == 0) {
            pass(1);
        } else {
            poll(behind(next));
            next = own;
            tokens = 0;
        }
        return true;
    }

    private boolean lostLine() {
        if (events > FEW_EVENTS) {
            mode = IDLE;
            return true;
        }
        if (stillness >= TICKS_LOST + TICKS_LOST_EACH * own) {
            poll(behind(own));
            next = own;
            tokens = 0;
            return true;
        }
        return false;
    }

    private boolean answeredLine() {
        if (ear.to() == own && ear.type() == TYPE_HERE_I_AM && isOtherStation(ear.from())) {
            sole = false;
            next = ear.from();
            polled = own;
            tokens = 0;
            pass(0);
        } else {
            mode = IDLE;
        }
        return true;
    }

    private boolean unansweredLine(int told) {
        if (told != INVALID && stillness < TICKS_USED) {
            return false;
        }
        if (sole) {
            mode = USE;
        } else if (next != own) {
            pass(0);
        } else if (behind(polled) != own) {
            poll(behind(polled));
        } else {
            sole = true;
            mode = USE;
        }
        return true;
    }

    private void poll(int number) {
        polled = number;
        send(TYPE_POLL, number, noData);
        mode = POLLING;
    }

    private void pass(int triesBefore) {
        tries = triesBefore;
        send(TYPE_TOKEN, next, noData);
        events = 0;
        mode = PASSING;
    }

    private void sendAnswer(Row answer) {
        if (answer.size() > 0) {
            send(TYPE_REPLY, ear.from(), answer);
        }
    }

    private void send(int type, int to, Row data) {
        out.put(85);
        out.put(255);
        int header = out.size();
        out.put(type);
        out.put(to);
        out.put(own);
        out.put(data.size() / 256);
        out.put(data.size() % 256);
        out.put(Check.ofHeader(out, header));
        if (data.size() > 0) {
            out.putAll(data);
            int check = Check.ofData(data);
            out.put(check % 256);
            out.put(check / 256);
        }
        stillness = 0;
    }

    /** Bytes in a row of a length that never changes, so that no call has to make one. */
    private static final class Row {
        private final int[] bytes;
        private int count = 0;

        Row(int room) {
            bytes = new int[room];
        }

        void clear() {
            count = 0;
        }

        int size() {
            return count;
        }

        int at(int i) {
            return i >= 0 && i < count ? bytes[i] : BAD;
        }

        void put(int b) {
            if (count < bytes.length) {
                bytes[count] = b;
                count++;
            }
        }

        void putInt(int value) {
            put(value >>> 24);
            put((value >>> 16) & 255);
            put((value >>> 8) & 255);
            put(value & 255);
        }

        void putAll(Row other) {
            for (int i = 0; i < other.count; i++) {
                put(other.bytes[i]);
            }
        }
    }

    /** The checks of a header and of data, which differ in their width alone. */
    private static final class Check {
        static final int HEADER_BYTES = 5;
        static final int HEADER_START = 255;
        static final int DATA_START = 65535;
        static final int HEADER_MASK = 129;
        static final int DATA_MASK = 33800;

        static int ofHeader(Row row, int from) {
            int c = HEADER_START;
            for (int i = 0; i < HEADER_BYTES; i++) {
                c = withByte(c, row.at(from + i), HEADER_MASK);
            }
            return HEADER_START - c;
        }

        static int ofData(Row row) {
            int c = DATA_START;
            for (int i = 0; i < row.size(); i++) {
                c = withByte(c, row.at(i), DATA_MASK);
            }
            return DATA_START - c;
        }

        static int withByte(int c, int b, int mask) {
            int left = c ^ b;
            for (int i = 0; i < 8; i++) {
                left = (left & 1) == 1 ? (left >>> 1) ^ mask : left >>> 1;
            }
            return left;
        }
    }

    /** Takes the bytes that come in apart into frames. */
    private static final class Ear {
        private static final int FIRST = 0;
        private static final int SECOND = 1;
        private static final int HEADER = 2;
        private static final int HEADER_CHECK = 3;
        private static final int DATA = 4;
        private static final int LOW_CHECK = 5;
        private static final int HIGH_CHECK = 6;
        private static final int TICKS_CUT_OFF = 4;

        private final int own;
        private final Row header = new Row(Check.HEADER_BYTES);
        private final Row data = new Row(MOST_DATA);
        private int stage = FIRST;
        private int check = 0;
        private int lowCheck = 0;

        Ear(int own) {
            this.own = own;
        }

        int type() {
            return header.at(0);
        }

        int to() {
            return header.at(1);
        }

        int from() {
            return header.at(2);
        }

        Row data() {
            return data;
        }

        /** What a byte makes of the frame: NOTHING yet, HEARD or INVALID. */
        int take(int b) {
            switch (stage) {
                case FIRST: stage = b == 85 ? SECOND : FIRST; return NOTHING;
                case SECOND: takeSecond(b); return NOTHING;
                case HEADER: takeHeader(b); return NOTHING;
                case HEADER_CHECK: return takeHeaderCheck(b);
                case DATA: takeData(b); return NOTHING;
                case LOW_CHECK: lowCheck = b; stage = HIGH_CHECK; return NOTHING;
                default: return takeHighCheck(b);
            }
        }

        /** What a tick makes of it. */
        int rest(int ticks) {
            if (stage >= HEADER && ticks >= TICKS_CUT_OFF) {
                stage = FIRST;
                return INVALID;
            }
            return NOTHING;
        }

        private void takeSecond(int b) {
            if (b == 255) {
                stage = HEADER;
                header.clear();
                data.clear();
                check = Check.HEADER_START;
            } else if (b != 85) {
                stage = FIRST;
            }
        }

        private void takeHeader(int b) {
            header.put(b);
            check = Check.withByte(check, b, Check.HEADER_MASK);
            if (header.size() == Check.HEADER_BYTES) {
                stage = HEADER_CHECK;
            }
        }

        private int takeHeaderCheck(int b) {
            stage = FIRST;
            if (b != Check.HEADER_START - check || dataBytes() > MOST_DATA) {
                return INVALID;
            }
            if (dataBytes() == 0) {
                return ended();
            }
            stage = DATA;
            check = Check.DATA_START;
            return NOTHING;
        }

        private void takeData(int b) {
            data.put(b);
            check = Check.withByte(check, b, Check.DATA_MASK);
            if (data.size() >= dataBytes()) {
                stage = LOW_CHECK;
            }
        }

        private int takeHighCheck(int b) {
            stage = FIRST;
            return lowCheck + 256 * b == Check.DATA_START - check ? ended() : INVALID;
        }

        private int dataBytes() {
            return 256 * header.at(3) + header.at(4);
        }

        private int ended() {
            return to() == own || to() == TO_ALL ? HEARD : NOTHING;
        }
    }

    /** A thing with a default and ranks; the default is kept as rank 0, which always has a value. */
    private static final class Thing {
        static final int INT_CLASS = 2;
        static final int BINARY_CLASS = 4;

        private final int reference;
        private final boolean binary;
        private final int[] values = new int[RANKS + 1];
        private final boolean[] given = new boolean[RANKS + 1];

        Thing(int cls, int number) {
            reference = cls * CLASS_STEP + number;
            binary = cls == BINARY_CLASS;
            given[0] = true;
        }

        int reference() {
            return reference;
        }

        boolean isBinary() {
            return binary;
        }

        boolean isGiven(int r) {
            return r >= 0 && r <= RANKS && given[r];
        }

        int valueOf(int r) {
            return r >= 0 && r <= RANKS ? values[r] : 0;
        }

        boolean takes(int value) {
            return !binary || value == 0 || value == 1;
        }

        boolean give(int r, int value) {
            if (r < 0 || r > RANKS || !takes(value)) {
                return false;
            }
            values[r] = value;
            given[r] = true;
            return true;
        }

        boolean takeAway(int r) {
            if (r < 1 || r > RANKS) {
                return false;
            }
            given[r] = false;
            return true;
        }

        int shown() {
            for (int r = 1; r <= RANKS; r++) {
                if (given[r]) {
                    return values[r];
                }
            }
            return values[0];
        }
    }

    /** Takes the data of a request apart and writes THE ANSWER to it. */
    private static final class Desk {
        private static final int MOST_ANSWER = 32;
        private static final int WRITE = 15;
        private static final int HEAD_BYTES = 6;

        private static final int MARK_INDEX = 41;
        private static final int MARK_OPEN = 62;
        private static final int MARK_CLOSE = 63;
        private static final int MARK_RANK = 73;
        private static final int MARK_NONE = 0;
        private static final int MARK_SIZE = 33;
        private static final int MARK_INT = 68;
        private static final int MARK_BINARY = 145;
        private static final int MARK_IDENTITY = 196;

        private static final int IDENTITY = 75;
        private static final int PRESENT = 85;
        private static final int BY_RANK = 87;
        private static final int DEFAULT = 104;

        private static final int NO_INDEX = -1;
        private static final int NO_FAULT = 0;

        private final Thing[] things = new Thing[4];
        private final Row answer = new Row(MOST_ANSWER);

        private Row asked = new Row(0);
        private int at = 0;
        private int id = 0;
        private int service = 0;
        private int reference = 0;
        private Thing asksFor = null;
        private int property = 0;
        private int index = NO_INDEX;
        private int writtenMark = MARK_NONE;
        private int writtenValue = 0;
        private int rank = RANKS;

        Desk() {
            things[0] = new Thing(Thing.INT_CLASS, 0);
            things[1] = new Thing(Thing.INT_CLASS, 1);
            things[2] = new Thing(Thing.BINARY_CLASS, 0);
            things[3] = new Thing(Thing.BINARY_CLASS, 1);
        }

        /** The thing of that number; null when there is none. */
        Thing thing(int i) {
            return i >= 0 && i < things.length ? things[i] : null;
        }

        /**
         * The answer; it has no bytes when there is none. What takes the data apart moves on behind its
         * end for bytes that are missing, so that these are seen once all of it has been taken.
         */
        Row answerTo(Row data) {
            answer.clear();
            if (!isForDesk(data)) {
                return answer;
            }
            asked = data;
            id = data.at(4);
            service = data.at(5);
            at = HEAD_BYTES;
            if (service != READ && service != WRITE) {
                begin(96, 9);
            } else if (!takesPlace() || (service == WRITE && !takesWritten()) || at != asked.size()) {
                begin(96, 4);
            } else {
                answerWellFormed();
            }
            return answer;
        }

        private static boolean isForDesk(Row data) {
            return data.size() >= HEAD_BYTES && data.at(0) == 1 && data.at(1) == 4 && data.at(2) == 0;
        }

        private void answerWellFormed() {
            asksFor = thingOf(reference);
            int fault = fault();
            if (fault != NO_FAULT) {
                begin(80, service);
                answer.put(MARK_BINARY);
                answer.put(fault / 256);
                answer.put(MARK_BINARY);
                answer.put(fault % 256);
            } else if (service == WRITE) {
                write();
                begin(32, WRITE);
            } else {
                begin(48, READ);
                tellPlace();
                answer.put(MARK_OPEN);
                tellProperty();
                answer.put(MARK_CLOSE);
            }
        }

        private void begin(int kind, int last) {
            answer.put(1);
            answer.put(0);
            answer.put(kind);
            answer.put(id);
            answer.put(last);
        }

        private boolean takesPlace() {
            if (!follows(MARK_REFERENCE)) {
                return false;
            }
            reference = nextInt();
            if (!follows(MARK_PROPERTY)) {
                return false;
            }
            property = nextByte();
            index = follows(MARK_INDEX) ? nextByte() : NO_INDEX;
            return true;
        }

        private boolean takesWritten() {
            if (!follows(MARK_OPEN)) {
                return false;
            }
            writtenMark = nextByte();
            if (writtenMark == MARK_INT) {
                writtenValue = nextInt();
            } else if (writtenMark == MARK_BINARY) {
                writtenValue = nextByte();
            } else if (writtenMark != MARK_NONE) {
                return false;
            }
            if (!follows(MARK_CLOSE)) {
                return false;
            }
            rank = follows(MARK_RANK) ? nextByte() : RANKS;
            return rank >= 1 && rank <= RANKS;
        }

        /** Steps over a mark if it comes next. */
        private boolean follows(int mark) {
            if (asked.at(at) != mark) {
                return false;
            }
            at++;
            return true;
        }

        private int nextByte() {
            int b = asked.at(at);
            at++;
            return b;
        }

        private int nextInt() {
            int value = 0;
            for (int i = 0; i < 4; i++) {
                value = (value << 8) | asked.at(at + i);
            }
            at += 4;
            return value;
        }

        private Thing thingOf(int sought) {
            for (int i = 0; i < things.length; i++) {
                if (things[i].reference() == sought) {
                    return things[i];
                }
            }
            return null;
        }

        /** The two numbers of the first fault, as 256 times x, plus y. */
        private int fault() {
            if (asksFor == null) {
                return 256 + 31;
            }
            if (property != IDENTITY && property != PRESENT && property != BY_RANK && property != DEFAULT) {
                return 512 + 32;
            }
            if (index != NO_INDEX && property != BY_RANK) {
                return 512 + 50;
            }
            if (property == BY_RANK && (index == NO_INDEX || index > RANKS)) {
                return 512 + 42;
            }
            return service == WRITE ? faultOfWrite() : NO_FAULT;
        }

        private int faultOfWrite() {
            if (property == IDENTITY || property == BY_RANK) {
                return 512 + 40;
            }
            if (writtenMark == MARK_NONE) {
                return property == PRESENT ? NO_FAULT : 512 + 9;
            }
            if (writtenMark != (asksFor.isBinary() ? MARK_BINARY : MARK_INT)) {
                return 512 + 9;
            }
            return asksFor.takes(writtenValue) ? NO_FAULT : 512 + 37;
        }

        private void write() {
            if (writtenMark == MARK_NONE) {
                asksFor.takeAway(rank);
            } else {
                asksFor.give(property == DEFAULT ? 0 : rank, writtenValue);
            }
        }

        private void tellPlace() {
            answer.put(MARK_REFERENCE);
            answer.putInt(reference);
            answer.put(MARK_PROPERTY);
            answer.put(property);
            if (index != NO_INDEX) {
                answer.put(MARK_INDEX);
                answer.put(index);
            }
        }

        private void tellProperty() {
            if (property == IDENTITY) {
                answer.put(MARK_IDENTITY);
                answer.putInt(reference);
            } else if (property == BY_RANK && index == 0) {
                answer.put(MARK_SIZE);
                answer.put(RANKS);
            } else if (property == BY_RANK && !asksFor.isGiven(index)) {
                answer.put(MARK_NONE);
            } else if (asksFor.isBinary()) {
                answer.put(MARK_BINARY);
                answer.put(valueRead());
            } else {
                answer.put(MARK_INT);
                answer.putInt(valueRead());
            }
        }

        private int valueRead() {
            if (property == PRESENT) {
                return asksFor.shown();
            }
            return asksFor.valueOf(property == DEFAULT ? 0 : index);
        }
    }
}
