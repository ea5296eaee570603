import java.util.ArrayDeque;
import java.util.ArrayList;
import java.util.Deque;
import java.util.HashMap;
import java.util.List;
import java.util.Map;

/**
 * The document once more, in its plainest form, to hold StreamEnd against: it keeps the whole stream by its numbers,
 * lets ticks go by one by one, and asks the document's conditions anew each time instead of remembering answers.
 */
final class PlainEnd {
    private static final int OPEN = 1;
    private static final int LAST = 2;
    private static final int RESET = 4;
    private static final int THANKS = 8;

    private final int own;
    private final int quiet;
    private int time = 0;
    private int state = Script.FREE;
    private boolean listened;
    private int quietLeft;

    private int first;
    private int oldest;
    private int next;
    private List<Integer> written = new ArrayList<>();
    private boolean closed;
    private boolean lastSent;
    private int piece;
    private int window;
    private int toldNumber;
    private int toldThanked;

    private boolean peerOpened;
    private int expected;
    private Map<Integer, Integer> came = new HashMap<>();
    private Deque<Integer> readable = new ArrayDeque<>();
    private Integer peerLast;
    private boolean peerLeft;

    private int alarm;
    private int tries;
    private int wait = 60;
    private int smooth;
    private int spread;
    private boolean everMeasured;
    private Integer measured;
    private int measuredFrom;

    private int[] reset;
    private boolean open;
    private boolean openSent;
    private boolean again;
    private boolean probe;
    private boolean thanks;

    private List<Integer> fed = new ArrayList<>();
    private int[] made;
    private List<Integer> madeBytes;

    PlainEnd(int largest, int quiet) {
        own = largest < 1 || largest > 1460 ? 536 : largest;
        this.quiet = quiet < 1 || quiet > 4000 ? 2000 : quiet;
        piece = own;
    }

    private static boolean before(int x, int y) {
        return y - x > 0;
    }

    private boolean among(int... states) {
        for (int s : states) {
            if (s == state) {
                return true;
            }
        }
        return false;
    }

    private boolean goesOut() {
        return among(Script.ON, Script.LEAVING, Script.ALONE, Script.PARTING, Script.ENDING);
    }

    void begin(int number, boolean listening) {
        if (!among(Script.FREE, Script.ABORTED)) {
            throw new IllegalStateException();
        }
        fresh(number, listening);
    }

    private void fresh(int number, boolean listening) {
        listened = listening;
        first = number;
        oldest = number;
        next = listening ? number : number + 1;
        written = new ArrayList<>();
        closed = false;
        lastSent = false;
        piece = own;
        window = 0;
        peerOpened = false;
        expected = 0;
        came = new HashMap<>();
        readable = new ArrayDeque<>();
        peerLast = null;
        peerLeft = false;
        alarm = 0;
        tries = 0;
        wait = 60;
        smooth = 0;
        spread = 0;
        everMeasured = false;
        measured = null;
        open = !listening;
        openSent = false;
        again = false;
        probe = false;
        thanks = false;
        state = listening ? Script.LISTENING : Script.ASKING;
    }

    private int thankedBytes() {
        return Math.max(0, Math.min(written.size(), oldest - (first + 1)));
    }

    private int sentBytes() {
        return Math.max(0, next - (first + 1) - (lastSent ? 1 : 0));
    }

    private int outBytes() {
        return written.size() - thankedBytes();
    }

    int write(long bytes, int n) {
        if (n < 1 || n > 8) {
            throw new IllegalArgumentException();
        }
        if (closed || among(Script.FREE, Script.LISTENING, Script.ABORTED)) {
            throw new IllegalStateException();
        }
        int taken = 0;
        for (int k = n - 1; k >= 0 && outBytes() < 2048; k--) {
            written.add((int) (bytes >> 8 * k & 0xff));
            taken++;
        }
        endOfCall();
        return taken;
    }

    int read() {
        int bound = Math.min(piece, 1024);
        if (!readable.isEmpty()) {
            boolean less = room() < bound;
            int value = readable.poll();
            if (less && room() >= bound && among(Script.ON, Script.LEAVING, Script.LEFT)) {
                thanks = true;
            }
            return value;
        }
        if (peerLeft) {
            return -2;
        }
        if (among(Script.FREE, Script.LISTENING, Script.ABORTED)) {
            throw new IllegalStateException();
        }
        return -1;
    }

    void close() {
        if (closed || among(Script.FREE, Script.ABORTED)) {
            throw new IllegalStateException();
        }
        closed = true;
        switch (state) {
            case Script.LISTENING: case Script.ASKING: become(Script.FREE); break;
            case Script.ON: state = Script.LEAVING; break;
            case Script.ALONE: state = Script.ENDING; break;
            default: break;
        }
        endOfCall();
    }

    void abort() {
        if (among(Script.FREE, Script.ABORTED)) {
            throw new IllegalStateException();
        }
        if (!among(Script.LISTENING, Script.ASKING, Script.QUIET)) {
            reset = new int[] {RESET + THANKS, next, peerOpened ? expected : 0};
        }
        become(Script.ABORTED);
    }

    private void become(int end) {
        state = end;
        alarm = 0;
        open = false;
        again = false;
        probe = false;
        if (end == Script.QUIET) {
            quietLeft = quiet;
        } else {
            thanks = false;
        }
    }

    int run(int n) {
        if (n < 1 || n > 2000) {
            throw new IllegalArgumentException();
        }
        if (time + n > 1000000) {
            throw new IllegalStateException();
        }
        for (int k = 0; k < n; k++) {
            tick();
        }
        return time;
    }

    private void tick() {
        time++;
        if (state == Script.QUIET && --quietLeft == 0) {
            become(Script.FREE);
        }
        if (alarm > 0 && --alarm == 0) {
            rings();
        }
        endOfCall();
    }

    private void rings() {
        tries++;
        if (tries > 8) {
            become(Script.ABORTED);
            return;
        }
        if (among(Script.ASKING, Script.ANSWERING)) {
            open = true;
        } else if (oldest != next) {
            again = true;
        } else {
            probe = true;
        }
        wait = Math.min(1200, wait * 2);
        alarm = wait;
    }

    private boolean somethingNew() {
        return sentBytes() < written.size() || closed && !lastSent;
    }

    private void endOfCall() {
        if (goesOut() && oldest == next && window == 0 && somethingNew() && alarm == 0) {
            alarm = wait;
        }
    }

    boolean next() {
        if (reset != null) {
            made = new int[] {reset[0], reset[1], reset[2], 0, 0};
            madeBytes = new ArrayList<>();
            thanks = thanks && (reset[0] & THANKS) == 0;
            reset = null;
            return true;
        }
        if (open) {
            open = false;
            send(OPEN, first, 0);
            begins(openSent);
            openSent = true;
            return true;
        }
        if (again) {
            again = false;
            int n = Math.min(piece, sentBytes() - thankedBytes());
            boolean reachesLast = lastSent && oldest + n == next - 1;
            send(reachesLast ? LAST : 0, oldest, n);
            measured = null;
            return true;
        }
        return nextNew() || nextProbe() || nextThanks();
    }

    /** What follows from sending OPEN or something new. */
    private void begins(boolean wasSentBefore) {
        if (wasSentBefore) {
            measured = null;
        } else if (measured == null) {
            measured = next;
            measuredFrom = time;
        }
        if (alarm == 0) {
            alarm = wait;
        }
    }

    private boolean nextNew() {
        if (!goesOut()) {
            return false;
        }
        int n = 0;
        while (n < piece && sentBytes() + n < written.size() && next + n - oldest < window) {
            n++;
        }
        boolean last = closed && !lastSent && sentBytes() + n == written.size() && next + n - oldest < window;
        if (n == 0 && !last) {
            return false;
        }
        sendNew(n, last);
        return true;
    }

    private boolean nextProbe() {
        if (!probe) {
            return false;
        }
        boolean byteThere = sentBytes() < written.size();
        sendNew(byteThere ? 1 : 0, !byteThere);
        return true;
    }

    private void sendNew(int n, boolean last) {
        probe = false;
        send(last ? LAST : 0, next, n);
        lastSent = lastSent || last;
        next += n + (last ? 1 : 0);
        begins(false);
    }

    private boolean nextThanks() {
        if (!thanks) {
            return false;
        }
        send(0, next, 0);
        return true;
    }

    private void send(int flags, int number, int n) {
        boolean opens = (flags & OPEN) != 0;
        made = new int[] {flags + (peerOpened ? THANKS : 0), number, peerOpened ? expected : 0, room(), opens ? own : 0};
        madeBytes = new ArrayList<>();
        for (int k = 0; k < n; k++) {
            madeBytes.add(written.get(number - (first + 1) + k));
        }
        thanks = thanks && !peerOpened;
    }

    int segment(int what) {
        if (what < 0 || what > 5) {
            throw new IllegalArgumentException();
        }
        if (made == null) {
            throw new IllegalStateException();
        }
        return what == 5 ? madeBytes.size() : made[what];
    }

    int byteAt(int i) {
        if (made == null) {
            throw new IllegalStateException();
        }
        if (i < 0 || i >= madeBytes.size()) {
            throw new IndexOutOfBoundsException();
        }
        return madeBytes.get(i);
    }

    int feed(long bytes, int n) {
        if (n < 1 || n > 8) {
            throw new IllegalArgumentException();
        }
        if (fed.size() + n > 1460) {
            throw new IllegalStateException();
        }
        for (int k = n - 1; k >= 0; k--) {
            fed.add((int) (bytes >> 8 * k & 0xff));
        }
        return fed.size();
    }

    int arrive(int flags, int number, int thanked, int told, int largest) {
        if (flags < 0 || flags > 15 || told < 0 || told > 65535 || largest < 0 || largest > 65535) {
            throw new IllegalArgumentException();
        }
        new Coming(flags, number, thanked, told, largest, fed).comes();
        fed = new ArrayList<>();
        endOfCall();
        return state;
    }

    private int room() {
        return 2048 - readable.size();
    }

    int state() {
        return state;
    }

    int figure(int what) {
        if (what < 0 || what > 12) {
            throw new IllegalArgumentException();
        }
        return new int[] {oldest, next, window, peerOpened ? expected : 0, room(), wait, outBytes(), readable.size(),
            tries, piece, smooth, spread, alarm}[what];
    }

    /** A segment that arrives: what "A SEGMENT ARRIVES" says, sentence by sentence. */
    private final class Coming {
        private final boolean opens;
        private final boolean lasts;
        private final boolean resets;
        private final boolean thanking;
        private final int number;
        private final int thanked;
        private final int told;
        private final int largest;
        private final List<Integer> bytes;
        private final int size;

        Coming(int flags, int number, int thanked, int told, int largest, List<Integer> bytes) {
            opens = (flags & OPEN) != 0;
            lasts = (flags & LAST) != 0;
            resets = (flags & RESET) != 0;
            thanking = (flags & THANKS) != 0;
            this.number = number;
            this.thanked = thanked;
            this.told = told;
            this.largest = largest;
            this.bytes = bytes;
            size = (opens ? 1 : 0) + bytes.size() + (lasts ? 1 : 0);
        }

        void comes() {
            switch (state) {
                case Script.FREE: case Script.ABORTED: answerReset(); break;
                case Script.LISTENING: whenListening(); break;
                case Script.ASKING: whenAsking(); break;
                default: whenOther(); break;
            }
        }

        private void answerReset() {
            if (!resets) {
                reset = thanking ? new int[] {RESET, thanked, 0} : new int[] {RESET + THANKS, 0, number + size};
            }
        }

        private void whenListening() {
            if (resets) {
                return;
            }
            if (thanking) {
                answerReset();
                return;
            }
            if (opens) {
                takeOpen();
                state = Script.ANSWERING;
                next = first + 1;
                open = true;
            }
        }

        private void takeOpen() {
            peerOpened = true;
            expected = number + 1;
            piece = Math.min(own, largest == 0 ? 536 : largest);
            window = told;
            toldNumber = number;
            toldThanked = thanking ? thanked : first;
        }

        private void whenAsking() {
            if (thanking && thanked != next) {
                answerReset();
                return;
            }
            if (resets) {
                if (thanking) {
                    become(Script.ABORTED);
                }
                return;
            }
            if (!opens) {
                return;
            }
            takeOpen();
            if (thanking) {
                state = Script.ON;
                thankedFor();
                open = false;
                thanks = true;
            } else {
                state = Script.ANSWERING;
                open = true;
            }
        }

        /** Whether a number is one of the ROOM numbers from EXPECTED on: by going over all of them. */
        private boolean inRoom(int x) {
            for (int k = 0; k < room(); k++) {
                if (x == expected + k) {
                    return true;
                }
            }
            return false;
        }

        private boolean fits() {
            if (size == 0) {
                return number == expected || inRoom(number);
            }
            if (number - expected > 5000 || number - expected < -5000) {
                return false;
            }
            for (int k = 0; k < size; k++) {
                if (inRoom(number + k)) {
                    return true;
                }
            }
            return false;
        }

        private void whenOther() {
            if (!fits()) {
                thanks = thanks || !resets;
                if (state == Script.QUIET && lasts) {
                    quietLeft = quiet;
                }
                return;
            }
            if (resets) {
                takeReset();
                return;
            }
            if (opens) {
                thanks = true;
                return;
            }
            if (!thanking) {
                return;
            }
            if (state == Script.ANSWERING) {
                if (thanked != next) {
                    answerReset();
                    return;
                }
                state = closed ? Script.LEAVING : Script.ON;
                open = false;
            } else if (before(next, thanked)) {
                thanks = true;
                return;
            }
            if (before(oldest, thanked)) {
                thankedFor();
            }
            takeWindow();
            boolean lastThanked = lastSent && oldest == next;
            if (lastThanked && state == Script.ENDING) {
                become(Script.FREE);
                return;
            }
            if (lastThanked && state == Script.LEAVING) {
                state = Script.LEFT;
            } else if (lastThanked && state == Script.PARTING) {
                become(Script.QUIET);
            }
            takeBytes();
        }

        private void takeReset() {
            if (number != expected) {
                thanks = true;
            } else if (state == Script.ANSWERING && listened) {
                fresh(first, true);
            } else if (among(Script.PARTING, Script.ENDING, Script.QUIET)) {
                become(Script.FREE);
            } else {
                become(Script.ABORTED);
            }
        }

        private void thankedFor() {
            oldest = thanked;
            if (measured != null && !before(thanked, measured)) {
                measure(time - measuredFrom);
                measured = null;
            }
            tries = 0;
            alarm = oldest != next ? wait : 0;
            again = false;
        }

        private void measure(int t) {
            if (!everMeasured) {
                smooth = 8 * t;
                spread = 2 * t;
            } else {
                int d = t - smooth / 8;
                smooth = smooth + d;
                spread = spread + ((d < 0 ? -d : d) - spread / 4);
            }
            everMeasured = true;
            wait = smooth / 8 + (spread > 1 ? spread : 1);
            wait = wait < 20 ? 20 : wait > 1200 ? 1200 : wait;
        }

        private void takeWindow() {
            boolean newer = before(toldNumber, number) || toldNumber == number && thanked - toldThanked >= 0;
            if (before(thanked, oldest) || !newer) {
                return;
            }
            boolean was0 = window == 0;
            window = told;
            toldNumber = number;
            toldThanked = thanked;
            if (was0 && window != 0) {
                tries = 0;
                probe = false;
                alarm = oldest != next ? alarm : 0;
            }
            if (window == 0) {
                tries = 0;
            }
        }

        private void takeBytes() {
            if (among(Script.ON, Script.LEAVING, Script.LEFT)) {
                for (int k = 0; k < bytes.size(); k++) {
                    if (inRoom(number + k)) {
                        came.putIfAbsent(number + k, bytes.get(k));
                    }
                }
                int lastAt = number + bytes.size();
                if (lasts && peerLast == null && inRoom(lastAt)) {
                    peerLast = lastAt;
                }
                goOn();
            }
            thanks = thanks || lasts || !bytes.isEmpty();
        }

        private void goOn() {
            while (came.containsKey(expected) && (peerLast == null || peerLast != expected)) {
                readable.add(came.get(expected));
                expected++;
            }
            if (peerLast == null || peerLast != expected) {
                return;
            }
            expected++;
            peerLeft = true;
            if (state == Script.ON) {
                state = Script.ALONE;
            } else if (state == Script.LEAVING) {
                state = Script.PARTING;
            } else {
                become(Script.QUIET);
            }
        }
    }
}
