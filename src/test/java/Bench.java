import java.util.Arrays;

/** What every test uses: frames to put on the line, and answers that are held against those due. */
final class Bench {
    private final String name;
    private String sentence = "";
    private int lookedBefore = 0;
    private int wrong = 0;
    private int looked = 0;

    Bench(String name) {
        this.name = name;
    }

    /** Says which words of the document the answers from here on are held against. */
    void sentence(String words) {
        endSentence();
        sentence = words;
        lookedBefore = looked;
    }

    private void endSentence() {
        if (!sentence.isEmpty() && looked == lookedBefore) {
            tell("nothing is looked at");
        }
    }

    void due(String what, long got, long want) {
        looked++;
        if (got != want) {
            tell(what + " answered " + got + ", due is " + want);
        }
    }

    void due(String what, boolean got, boolean want) {
        due(what, got ? 1 : 0, want ? 1 : 0);
    }

    void dueBytes(String what, int[] got, int... want) {
        looked++;
        if (!Arrays.equals(got, want)) {
            tell(what + " gave " + Arrays.toString(got) + ", due is " + Arrays.toString(want));
        }
    }

    void dueState(String what, Station x, int state, int next, int polled) {
        due(what + ": state, NEXT and POLLED", x.state() & 2047, state + 8 * next + 128 * polled);
    }

    void dueNumber(String what, Station x, int state) {
        due(what + ": state", x.state() & 7, state);
    }

    private void tell(String text) {
        wrong++;
        System.out.println(name + ": " + text + (sentence.isEmpty() ? "" : " (\"" + sentence + "\")"));
    }

    /** Ends the program, with 1 if an answer was wrong. */
    void end() {
        endSentence();
        System.out.println(wrong == 0 ? looked + " answers are as due" : wrong + " answers are not as due");
        if (wrong != 0 || looked == 0) {
            System.exit(1);
        }
    }

    static int headerCheck(int... bytes) {
        return check(255, 129, bytes);
    }

    static int dataCheck(int... bytes) {
        return check(65535, 33800, bytes);
    }

    private static int check(int start, int mask, int... bytes) {
        int c = start;
        for (int b : bytes) {
            c ^= b;
            for (int i = 0; i < 8; i++) {
                int half = c / 2;
                c = c % 2 == 1 ? half ^ mask : half;
            }
        }
        return start - c;
    }

    static int[] header(int type, int to, int from, int n) {
        return new int[] {85, 255, type, to, from, n / 256, n % 256,
            headerCheck(type, to, from, n / 256, n % 256)};
    }

    static int[] frame(int type, int to, int from, int... data) {
        int[] header = header(type, to, from, data.length);
        if (data.length == 0) {
            return header;
        }
        int check = dataCheck(data);
        return join(header, data, new int[] {check % 256, check / 256});
    }

    static int[] join(int[]... parts) {
        int[] all = new int[0];
        for (int[] part : parts) {
            int old = all.length;
            all = Arrays.copyOf(all, old + part.length);
            System.arraycopy(part, 0, all, old, part.length);
        }
        return all;
    }

    /** The same bytes with one of them made wrong. */
    static int[] spoilt(int[] bytes, int place) {
        int[] copy = bytes.clone();
        copy[place] ^= 1;
        return copy;
    }

    static int[] first(int[] bytes, int n) {
        return Arrays.copyOf(bytes, n);
    }

    /** Hears all the bytes; answers how many were sent upon them. */
    static int hearAll(Station x, int... bytes) {
        int sent = 0;
        for (int b : bytes) {
            sent += x.hear(b);
        }
        return sent;
    }

    /** Hears them and answers what was sent upon the last one. */
    static int[] upon(Station x, int... bytes) {
        hearAll(x, bytes);
        return sentBytes(x);
    }

    static int[] sentBytes(Station x) {
        int[] all = new int[0];
        for (int b = x.sent(0); b != PassedToken.BAD; b = x.sent(all.length)) {
            all = Arrays.copyOf(all, all.length + 1);
            all[all.length - 1] = b;
        }
        return all;
    }

    /** The last eight bytes that were sent, which is a token or a poll where such a one was sent last. */
    static int[] lastSent(Station x) {
        int[] all = sentBytes(x);
        return Arrays.copyOfRange(all, Math.max(0, all.length - 8), all.length);
    }

    static int[] replyBytes(Station x) {
        int[] all = new int[x.replied()];
        for (int i = 0; i < all.length; i++) {
            all[i] = x.reply(i);
        }
        return all;
    }

    /** Lets any number of ticks go by; answers how many bytes were sent in them. */
    static int rest(Station x, int ticks) {
        int sent = 0;
        for (int left = ticks; left > 0; left -= 100) {
            sent += x.quiet(Math.min(left, 100));
        }
        return sent;
    }

    /** A station that has got the token once and found nobody yet: it polls the one behind it. */
    static Station polling(int station, int most) {
        Station x = new Station(station, most);
        hearAll(x, frame(0, station, station == 0 ? 1 : 0));
        return x;
    }

    /** A station that has passed the token to a next one that it has found. */
    static Station passing(int station, int most, int next) {
        Station x = polling(station, most);
        hearAll(x, frame(2, station, next));
        return x;
    }

    /** Bytes enough that a token that was passed counts as used. */
    static void othersSpeak(Station x) {
        hearAll(x, 1, 2, 3, 4, 5);
    }

    /** A station that is idle and knows who is next. */
    static Station idle(int station, int most, int next) {
        Station x = passing(station, most, next);
        othersSpeak(x);
        return x;
    }

    /** Such a one that has passed three tokens on, so that it will poll with the fourth. */
    static Station full(int station, int most, int next) {
        Station x = idle(station, most, next);
        for (int i = 0; i < 3; i++) {
            hearAll(x, frame(0, station, next));
            othersSpeak(x);
        }
        return x;
    }

    /** A station that waits for a reply of the next one. */
    static Station waiting(int station, int most, int next) {
        Station x = idle(station, most, next);
        x.ask(next, 7, 2, 1, 85);
        hearAll(x, frame(0, station, next));
        return x;
    }

    /**
     * How many requests a sole station 3 that polls sends, one with each use of the token, when nobody
     * answers it, until it polls again: one more than TOKENS lacks to 3.
     */
    static int uses(Station x) {
        x.ask(0, 1, 2, 0, 85);
        x.quiet(20);
        int uses = 0;
        while (x.sent(2) == 5 && uses < 10) {
            uses++;
            x.ask(0, 1, 2, 0, 85);
            hearAll(x, frame(7, 3, 0));
        }
        return uses;
    }

    /** A station that has looked for all others and found none. */
    static Station sole(int station, int most) {
        Station x = polling(station, most);
        rest(x, 20 * most);
        return x;
    }
}
