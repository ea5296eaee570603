import java.nio.charset.StandardCharsets;

/** A run of calls on one new StreamEnd: each method makes calls and notes every answer that is not the one due. */
final class Script implements Names {
    private static final int MOST_CALLS = 512;
    private static int wrong = 0;

    private final String name;
    private final StreamEnd end;
    private int calls = 0;

    Script(String name, int largest, int quiet) {
        this.name = name;
        this.end = new StreamEnd(largest, quiet);
    }

    /** An end that is ON after it asked with 1000; the peer's first byte is 5001. Its thanks was sent. */
    static Script asked(String name, int largest, int window, int peersLargest) {
        return new Script(name, largest, 50).begin(1000, false)
                .sends(O, 1000, 0, 2048, largest, "")
                .arrive(O + T, 5000, 1001, window, peersLargest, ON)
                .sends(T, 1001, 5001, 2048, 0, "");
    }

    /** An end that is ON after it listened with 1000; the peer's first byte is 5001. Nothing is to be sent. */
    static Script answered(String name, int largest, int window, int peersLargest) {
        return new Script(name, largest, 50).begin(1000, true)
                .arrive(O, 5000, 0, window, peersLargest, ANSWERING)
                .sends(O + T, 1000, 5001, 2048, largest, "")
                .arrive(T, 5001, 1001, window, 0, ON);
    }

    /**
     * An end in a state, with FIRST 1000, its largest 100, 50 quiet ticks; the peer's OPEN had number 5000, its LAST,
     * where it came, 5001; the own LAST, where it was sent, has 1001. Nothing is to be sent.
     */
    static Script in(int state, String name) {
        String named = name + ", state " + state;
        switch (state) {
            case FREE: return new Script(named, 100, 50);
            case LISTENING: return new Script(named, 100, 50).begin(1000, true);
            case ASKING: return new Script(named, 100, 50).begin(1000, false).sends(O, 1000, 0);
            case ANSWERING:
                return new Script(named, 100, 50).begin(1000, true).arrive(O, 5000, 0, 99, 0, ANSWERING)
                        .sends(O + T, 1000, 0);
            case ON: return answered(named, 100, 99, 0);
            case LEAVING: return answered(named, 100, 99, 0).close().sends(T + L, 1001, 0);
            case LEFT: return in(LEAVING, name).arrive(T, 5001, 1002, 99, 0, LEFT);
            case ALONE: return answered(named, 100, 99, 0).arrive(T + L, 5001, 1001, 99, 0, ALONE).sends(T, 1001, 0);
            case PARTING: return in(LEAVING, name).arrive(T + L, 5001, 1001, 99, 0, PARTING).sends(T, 1002, 0);
            case ENDING: return in(ALONE, name).close().sends(T + L, 1001, 0);
            case QUIET: return in(LEFT, name).arrive(T + L, 5001, 1002, 99, 0, QUIET).sends(T, 1002, 0);
            default: return new Script(named, 100, 50).begin(1000, true).abort();
        }
    }

    /** EXPECTED of an end that in() made. */
    static int expectedIn(int state) {
        return state >= ALONE && state <= QUIET ? 5002 : 5001;
    }

    /** OLDEST of an end that in() made and that is behind ANSWERING. */
    static int oldestIn(int state) {
        return state == LEFT || state == QUIET ? 1002 : 1001;
    }

    /** NEXT of an end that in() made and that has a peer. */
    static int nextIn(int state) {
        return state == LEAVING || state == LEFT || state >= PARTING && state <= QUIET ? 1002 : 1001;
    }

    /** An end that is ON, as answered() makes it, with 2048 bytes 'x' to be read; EXPECTED is 7049. */
    static Script full(String name, int largest) {
        return answered(name, largest, 99, 1460).feed(times("x", 1460)).arrive(T, 5001, 1001, 99, 0, ON)
                .feed(times("x", 588)).arrive(T, 6461, 1001, 99, 0, ON).sends(T, 1001, 7049, 0, 0, "");
    }

    static void finish() {
        if (wrong > 0) {
            System.out.println(wrong + " answers are not as due");
            System.exit(1);
        }
    }

    static void note(String what) {
        wrong++;
        System.out.println(what + Sentence.told());
    }

    private Script due(String call, long got, long want) {
        if (got != want) {
            note(name + ", call " + calls + ": " + call + " answered " + got + ", due is " + want);
        }
        return this;
    }

    private StreamEnd call() {
        calls++;
        if (calls == MOST_CALLS + 1) {
            note(name + ": more calls than the document allows");
        }
        return end;
    }

    Script begin(int first, boolean listening) {
        call().begin(first, listening);
        return this;
    }

    Script write(long bytes, int n, int want) {
        return due("write", call().write(bytes, n), want);
    }

    /** Writes a text, by eight bytes a call. */
    Script write(String text) {
        for (int i = 0; i < text.length(); i += 8) {
            String part = text.substring(i, Math.min(text.length(), i + 8));
            write(pack(part), part.length(), part.length());
        }
        return this;
    }

    Script read(int want) {
        return due("read()", call().read(), want);
    }

    Script read(String text) {
        for (byte b : bytes(text)) {
            read(b & 255);
        }
        return this;
    }

    Script close() {
        call().close();
        return this;
    }

    Script abort() {
        call().abort();
        return this;
    }

    Script run(int n, int want) {
        return due("run(" + n + ")", call().run(n), want);
    }

    /** next() makes a segment: this one. */
    Script sends(int flags, int number, int thanked, int window, int largest, String text) {
        due("next()", call().next() ? 1 : 0, 1);
        segment(flags, number, thanked, window, largest, text.length());
        byte[] want = bytes(text);
        int there = call().segment(5);
        for (int i = 0; i < want.length && i < there; i++) {
            due("byteAt(" + i + ")", call().byteAt(i), want[i] & 255);
        }
        return this;
    }

    /** next() makes a segment; only its flags, number and how many bytes it has are looked at. */
    Script sends(int flags, int number, int count) {
        due("next()", call().next() ? 1 : 0, 1);
        due("segment(0)", call().segment(0), flags);
        due("segment(1)", call().segment(1), number);
        return due("segment(5)", call().segment(5), count);
    }

    Script sendsNothing() {
        return due("next()", call().next() ? 1 : 0, 0);
    }

    Script segment(int... parts) {
        for (int i = 0; i < parts.length; i++) {
            due("segment(" + i + ")", call().segment(i), parts[i]);
        }
        return this;
    }

    Script byteAt(int i, int want) {
        return due("byteAt(" + i + ")", call().byteAt(i), want);
    }

    Script feed(long bytes, int n, int want) {
        return due("feed", call().feed(bytes, n), want);
    }

    Script feed(String text) {
        for (int i = 0; i < text.length(); i += 8) {
            String part = text.substring(i, Math.min(text.length(), i + 8));
            call().feed(pack(part), part.length());
        }
        return this;
    }

    Script arrive(int flags, int number, int thanked, int window, int largest, int want) {
        due("arrive(" + flags + ", " + number + ", " + thanked + ", " + window + ", " + largest + ")",
                call().arrive(flags, number, thanked, window, largest), want);
        return due("state()", call().state(), want);
    }

    Script state(int want) {
        return due("state()", call().state(), want);
    }

    /** Pairs: which figure, and what it should be. */
    Script figures(int... pairs) {
        for (int i = 0; i + 1 < pairs.length; i += 2) {
            due("figure(" + pairs[i] + ")", call().figure(pairs[i]), pairs[i + 1]);
        }
        return this;
    }

    /** A call that is to throw just this. */
    interface Call {
        void on(StreamEnd end);
    }

    Script illegalArgument(String what, Call c) {
        return thrown(IllegalArgumentException.class, what, c);
    }

    Script illegalState(String what, Call c) {
        return thrown(IllegalStateException.class, what, c);
    }

    Script outOfBounds(String what, Call c) {
        return thrown(IndexOutOfBoundsException.class, what, c);
    }

    private Script thrown(Class<?> want, String what, Call c) {
        Class<?> got = null;
        try {
            c.on(call());
        } catch (RuntimeException e) {
            got = e.getClass();
        }
        if (got != want) {
            note(name + ", call " + calls + ": " + what + " threw " + got + ", due is " + want);
        }
        return this;
    }

    static byte[] bytes(String text) {
        return text.getBytes(StandardCharsets.ISO_8859_1);
    }

    static long pack(String text) {
        long all = 0;
        for (byte b : bytes(text)) {
            all = all << 8 | b & 255;
        }
        return all;
    }

    static String times(String text, int n) {
        return text.repeat(n);
    }
}
