import java.util.Arrays;

/**
 * One end of a stream of bytes that is told by segments which may be lost, come twice, late or in
 * another order. It neither sends nor waits by itself: the caller carries the segments and the time.
 */
public final class StreamEnd {
    public static final int OPEN = 1;
    public static final int LAST = 2;
    public static final int RESET = 4;
    public static final int THANKS = 8;
    public static final int NONE = -1;
    public static final int OVER = -2;

    private static final int FREE = 0;
    private static final int LISTENING = 1;
    private static final int ASKING = 2;
    private static final int ANSWERING = 3;
    private static final int ON = 4;
    private static final int LEAVING = 5;
    private static final int LEFT = 6;
    private static final int ALONE = 7;
    private static final int PARTING = 8;
    private static final int ENDING = 9;
    private static final int QUIET = 10;
    private static final int ABORTED = 11;

    private static final int ALL_FLAGS = 15;
    private static final int WIDEST = 65535;
    private static final int MOST_BYTES = 1460;
    private static final int USUAL_LARGEST = 536;
    private static final int LONGEST_QUIET = 4000;
    private static final int USUAL_QUIET = 2000;
    private static final int MOST_AT_ONCE = 8;
    private static final int MOST_TICKS = 2000;
    private static final int LATEST_TIME = 1000000;
    private static final int MOST_TRIES = 8;
    private static final int ENOUGH_ROOM = 1024;

    /** A power of two, so that a number's place in a row is its lowest bits, however often numbers go round. */
    private static final int ROW = 2048;
    private static final int PLACE = ROW - 1;

    private final int largest;
    private final int quiet;
    private final Outgoing out;
    private final Incoming in;
    private final Watch watch;
    private final Due due;
    private final Segment arriving;
    private final Segment made;
    private boolean anyMade;
    private int state;
    private boolean beganListening;
    private int quietEnd;

    public StreamEnd(int largest, int quiet) {
        this.largest = largest >= 1 && largest <= MOST_BYTES ? largest : USUAL_LARGEST;
        this.quiet = quiet >= 1 && quiet <= LONGEST_QUIET ? quiet : USUAL_QUIET;
        out = new Outgoing(this.largest);
        in = new Incoming();
        watch = new Watch();
        due = new Due();
        arriving = new Segment();
        made = new Segment();
        anyMade = false;
        state = FREE;
        beganListening = false;
        quietEnd = 0;
    }

    public void begin(int first, boolean listening) throws IllegalStateException {
        if (!isEnded()) {
            throw new IllegalStateException("a stream is under way");
        }
        startStream(first, listening);
    }

    public int write(long bytes, int n) throws IllegalArgumentException, IllegalStateException {
        if (!isHandful(n)) {
            throw new IllegalArgumentException("1 to 8 bytes are written at once");
        }
        if (out.closed || isEnded() || state == LISTENING) {
            throw new IllegalStateException("nothing can be written now");
        }
        int taken = Math.min(n, out.space());
        for (int i = 0; i < taken; i++) {
            out.append(byteOf(bytes, n, i));
        }
        watchClosedWindow();
        return taken;
    }

    public int read() throws IllegalStateException {
        if (in.readable > 0) {
            return readByte();
        }
        if (in.over) {
            return OVER;
        }
        if (isEnded() || state == LISTENING) {
            throw new IllegalStateException("nothing can be read now");
        }
        return NONE;
    }

    public void close() throws IllegalStateException {
        if (out.closed || isEnded()) {
            throw new IllegalStateException("nothing is there to be closed");
        }
        out.closed = true;
        if (state == LISTENING || state == ASKING) {
            halt(FREE);
        } else if (state == ON) {
            state = LEAVING;
        } else if (state == ALONE) {
            state = ENDING;
        }
        watchClosedWindow();
    }

    public void abort() throws IllegalStateException {
        if (isEnded()) {
            throw new IllegalStateException("nothing is there to be aborted");
        }
        if (state != LISTENING && state != ASKING && state != QUIET) {
            due.resetIs(RESET | THANKS, out.next, in.expected);
        }
        halt(ABORTED);
    }

    public int run(int n) throws IllegalArgumentException, IllegalStateException {
        if (n < 1 || n > MOST_TICKS) {
            throw new IllegalArgumentException("1 to 2000 ticks go by at once");
        }
        if (n > LATEST_TIME - watch.time) {
            throw new IllegalStateException("the time would be too late");
        }
        int left = n;
        while (left > 0) {
            // only an alarm has to be met at its very tick: what follows from it depends on when it came
            int step = watch.alarmOn ? Math.max(1, Math.min(left, watch.ticksToAlarm())) : left;
            left -= step;
            watch.time += step;
            takeEvents();
        }
        return watch.time;
    }

    public boolean next() {
        if (due.reset) {
            makeReset();
        } else if (due.open) {
            makeOpen();
        } else if (due.again) {
            makeAgain();
        } else if (maySendNew() && out.maySend()) {
            makeNew(out.newBytes(), out.newHasLast());
        } else if (due.probe) {
            makeProbe();
        } else if (due.thanks) {
            make(0, out.next, 0, 0);
        } else {
            return false;
        }
        anyMade = true;
        return true;
    }

    public int segment(int what) throws IllegalArgumentException, IllegalStateException {
        if (what < 0 || what > 5) {
            throw new IllegalArgumentException("a segment has no such part");
        }
        if (!anyMade) {
            throw new IllegalStateException("no segment was made");
        }
        switch (what) {
            case 0: return made.flags;
            case 1: return made.number;
            case 2: return made.thanked;
            case 3: return made.window;
            case 4: return made.largest;
            default: return made.count;
        }
    }

    public int byteAt(int i) throws IllegalStateException, IndexOutOfBoundsException {
        if (!anyMade) {
            throw new IllegalStateException("no segment was made");
        }
        if (i < 0 || i >= made.count) {
            throw new IndexOutOfBoundsException("the segment has no such byte");
        }
        return made.bytes[i] & 255;
    }

    public int feed(long bytes, int n) throws IllegalArgumentException, IllegalStateException {
        if (!isHandful(n)) {
            throw new IllegalArgumentException("1 to 8 bytes are fed at once");
        }
        if (n > MOST_BYTES - arriving.count) {
            throw new IllegalStateException("a segment has at most 1460 bytes");
        }
        for (int i = 0; i < n; i++) {
            arriving.append(byteOf(bytes, n, i));
        }
        return arriving.count;
    }

    public int arrive(int flags, int number, int thanked, int window, int largest) throws IllegalArgumentException {
        if (flags < 0 || flags > ALL_FLAGS || !isWidth(window) || !isWidth(largest)) {
            throw new IllegalArgumentException("no segment is like that");
        }
        arriving.headIs(flags, number, thanked, window, largest);
        takeSegment();
        arriving.count = 0;
        watchClosedWindow();
        return state;
    }

    public int state() {
        return state;
    }

    public int figure(int what) throws IllegalArgumentException {
        switch (what) {
            case 0: return out.oldest;
            case 1: return out.next;
            case 2: return out.window;
            case 3: return in.expected;
            case 4: return in.room();
            case 5: return watch.wait;
            case 6: return out.count;
            case 7: return in.readable;
            case 8: return watch.tries;
            case 9: return out.piece;
            case 10: return watch.smooth;
            case 11: return watch.spread;
            case 12: return watch.ticksToAlarm();
            default: throw new IllegalArgumentException("there is no such figure");
        }
    }

    private static boolean isHandful(int n) {
        return n >= 1 && n <= MOST_AT_ONCE;
    }

    private static boolean isWidth(int n) {
        return n >= 0 && n <= WIDEST;
    }

    /** Byte i of the n lowest bytes of a long, the highest of these first. */
    private static byte byteOf(long bytes, int n, int i) {
        return (byte) (bytes >>> (8 * (n - 1 - i)));
    }

    private static boolean isBefore(int x, int y) {
        return y - x > 0;
    }

    private static boolean isNotBehind(int x, int y) {
        return y - x >= 0;
    }

    private boolean isEnded() {
        return state == FREE || state == ABORTED;
    }

    private boolean maySendNew() {
        return state == ON || state == LEAVING || state == ALONE || state == PARTING || state == ENDING;
    }

    private boolean mayTakeBytes() {
        return state == ON || state == LEAVING || state == LEFT;
    }

    private void startStream(int first, boolean listening) {
        out.restart(first, largest);
        in.restart();
        watch.restart();
        due.restart();
        beganListening = listening;
        if (listening) {
            state = LISTENING;
        } else {
            state = ASKING;
            openIsDue();
        }
    }

    /** OPEN has its number from now on, even before it is sent. */
    private void openIsDue() {
        out.next = out.first + 1;
        due.open = true;
    }

    /** Goes to FREE, ABORTED or QUIET, where no more than a reset, or in QUIET a thanks, is sent. */
    private void halt(int end) {
        state = end;
        watch.alarmOn = false;
        due.dropStream();
        if (end == QUIET) {
            beginQuiet();
        } else {
            due.thanks = false;
        }
    }

    private void beginQuiet() {
        quietEnd = watch.time + quiet;
    }

    private int readByte() {
        int enough = Math.min(out.piece, ENOUGH_ROOM);
        boolean wasShort = in.room() < enough;
        int value = in.takeByte();
        if (wasShort && in.room() >= enough && mayTakeBytes()) {
            due.thanks = true;
        }
        return value;
    }

    private void takeEvents() {
        if (state == QUIET && watch.time >= quietEnd) {
            halt(FREE);
        }
        if (watch.alarmOn && watch.time >= watch.alarmAt) {
            takeAlarm();
        }
    }

    private void takeAlarm() {
        watch.tries++;
        if (watch.tries > MOST_TRIES) {
            halt(ABORTED);
            return;
        }
        if (state == ASKING || state == ANSWERING) {
            due.open = true;
        } else if (out.hasUnthanked()) {
            due.again = true;
        } else {
            due.probe = true;
        }
        watch.doubleWait();
        watch.setAlarm();
    }

    /** A peer whose window is 0 may have told of a wider one in vain: without an alarm both ends would wait for ever. */
    private void watchClosedWindow() {
        if (maySendNew() && !watch.alarmOn && !out.hasUnthanked() && out.window == 0 && out.hasNew()) {
            watch.setAlarm();
        }
    }

    private void makeReset() {
        due.reset = false;
        made.headIs(due.resetFlags, due.resetNumber, due.resetThanked, 0, 0);
        made.count = 0;
        if (made.has(THANKS)) {
            due.thanks = false;
        }
    }

    private void makeOpen() {
        due.open = false;
        make(OPEN, out.first, 0, 0);
        if (due.openWasSent) {
            watch.measuring = false;
        } else {
            due.openWasSent = true;
            watch.measure(out.next);
        }
        watch.setAlarmIfOff();
    }

    private void makeAgain() {
        due.again = false;
        int n = Math.min(out.sent, out.piece);
        boolean withLast = out.lastSent && n == out.sent;
        make(withLast ? LAST : 0, out.oldest, 0, n);
        watch.measuring = false;
    }

    private void makeProbe() {
        boolean isLast = out.unsent() == 0;
        makeNew(isLast ? 0 : 1, isLast);
    }

    private void makeNew(int n, boolean withLast) {
        due.probe = false;
        make(withLast ? LAST : 0, out.next, out.sent, n);
        out.wasSent(n, withLast);
        watch.measure(out.next);
        watch.setAlarmIfOff();
    }

    /** Makes a segment that is no reset, with n bytes of OUT from an offset on. */
    private void make(int flags, int number, int offset, int n) {
        int thanks = in.opened ? THANKS : 0;
        int told = (flags & OPEN) != 0 ? largest : 0;
        made.headIs(flags | thanks, number, in.expected, in.room(), told);
        out.copyTo(made, offset, n);
        if (in.opened) {
            due.thanks = false;
        }
    }

    private void takeSegment() {
        if (isEnded()) {
            answerWithReset();
        } else if (state == LISTENING) {
            takeWhenListening();
        } else if (state == ASKING) {
            takeWhenAsking();
        } else if (!in.fits(arriving.number, arriving.size())) {
            takeMisfit();
        } else if (arriving.has(RESET)) {
            takeReset();
        } else if (arriving.has(OPEN)) {
            due.thanks = true;
        } else if (arriving.has(THANKS)) {
            takeInStream();
        }
    }

    private void answerWithReset() {
        if (arriving.has(RESET)) {
            return;
        }
        if (arriving.has(THANKS)) {
            due.resetIs(RESET, arriving.thanked, 0);
        } else {
            due.resetIs(RESET | THANKS, 0, arriving.number + arriving.size());
        }
    }

    private void takeWhenListening() {
        if (arriving.has(RESET)) {
            return;
        }
        if (arriving.has(THANKS)) {
            answerWithReset();
        } else if (arriving.has(OPEN)) {
            takeOpen();
            state = ANSWERING;
            openIsDue();
        }
    }

    private void takeWhenAsking() {
        boolean thanks = arriving.has(THANKS);
        if (thanks && arriving.thanked != out.next) {
            answerWithReset();
        } else if (arriving.has(RESET)) {
            if (thanks) {
                halt(ABORTED);
            }
        } else if (arriving.has(OPEN)) {
            takeOpen();
            if (thanks) {
                state = ON;
                due.open = false;
                takeThanked();
                due.thanks = true;
            } else {
                state = ANSWERING;
                due.open = true;
            }
        }
    }

    private void takeOpen() {
        in.open(arriving.number + 1);
        int told = arriving.largest == 0 ? USUAL_LARGEST : arriving.largest;
        out.piece = Math.min(largest, told);
        int thanked = arriving.has(THANKS) ? arriving.thanked : out.first;
        out.windowIs(arriving.window, arriving.number, thanked);
    }

    private void takeMisfit() {
        if (!arriving.has(RESET)) {
            due.thanks = true;
        }
        if (state == QUIET && arriving.has(LAST)) {
            beginQuiet();
        }
    }

    private void takeReset() {
        if (arriving.number != in.expected) {
            due.thanks = true;
        } else if (state == ANSWERING && beganListening) {
            startStream(out.first, true);
        } else if (state == PARTING || state == ENDING || state == QUIET) {
            halt(FREE);
        } else {
            halt(ABORTED);
        }
    }

    /** Takes a segment that fits and has THANKS, but neither RESET nor OPEN. */
    private void takeInStream() {
        if (state == ANSWERING) {
            if (arriving.thanked != out.next) {
                answerWithReset();
                return;
            }
            state = out.closed ? LEAVING : ON;
            due.open = false;
        } else if (isBefore(out.next, arriving.thanked)) {
            due.thanks = true;
            return;
        }
        if (isBefore(out.oldest, arriving.thanked)) {
            takeThanked();
        }
        takeWindow();
        if (out.lastIsThanked()) {
            leave();
        }
        if (state != FREE) {
            takeBytes();
        }
    }

    private void takeThanked() {
        out.thank(arriving.thanked);
        watch.endMeasure(arriving.thanked);
        watch.tries = 0;
        watch.alarmOn = false;
        if (out.hasUnthanked()) {
            watch.setAlarm();
        }
        due.again = false;
    }

    private void takeWindow() {
        if (isBefore(arriving.thanked, out.oldest) || !out.windowIsOlderThan(arriving)) {
            return;
        }
        boolean opens = out.window == 0 && arriving.window != 0;
        out.windowIs(arriving.window, arriving.number, arriving.thanked);
        if (opens) {
            due.probe = false;
            if (!out.hasUnthanked()) {
                watch.alarmOn = false;
            }
        }
        if (opens || arriving.window == 0) {
            watch.tries = 0;
        }
    }

    /** What follows when the peer has thanked for LAST. */
    private void leave() {
        if (state == LEAVING) {
            state = LEFT;
        } else if (state == PARTING) {
            halt(QUIET);
        } else if (state == ENDING) {
            halt(FREE);
        }
    }

    private void takeBytes() {
        boolean hasLast = arriving.has(LAST);
        if (mayTakeBytes()) {
            in.store(arriving);
            if (hasLast) {
                in.noteLast(arriving.number + arriving.count);
            }
            in.goOn();
            if (in.over) {
                peerLeaves();
            }
        }
        if (hasLast || arriving.count > 0) {
            due.thanks = true;
        }
    }

    private void peerLeaves() {
        if (state == ON) {
            state = ALONE;
        } else if (state == LEAVING) {
            state = PARTING;
        } else {
            halt(QUIET);
        }
    }

    /** A segment: the one that arrives, or the one that was made last. */
    private static final class Segment {
        private final byte[] bytes;
        private int count;
        private int flags;
        private int number;
        private int thanked;
        private int window;
        private int largest;

        Segment() {
            bytes = new byte[MOST_BYTES];
        }

        private void headIs(int newFlags, int newNumber, int newThanked, int newWindow, int newLargest) {
            flags = newFlags;
            number = newNumber;
            thanked = newThanked;
            window = newWindow;
            largest = newLargest;
        }

        private boolean has(int flag) {
            return (flags & flag) != 0;
        }

        private int size() {
            return count + (has(OPEN) ? 1 : 0) + (has(LAST) ? 1 : 0);
        }

        private void append(byte value) {
            if (count >= 0 && count < bytes.length) {
                bytes[count] = value;
                count++;
            }
        }
    }

    /** The numbers that this end gives, the row OUT, and what the peer lets it send. */
    private static final class Outgoing {
        private final byte[] row;
        /** Where in the row the oldest byte stands. */
        private int start;
        private int count;
        /** How many of the row's bytes were sent: they are its first ones. */
        private int sent;
        private int first;
        private int oldest;
        private int next;
        private boolean closed;
        private boolean lastSent;
        private int piece;
        private int window;
        private int windowNumber;
        private int windowThanked;

        Outgoing(int largest) {
            row = new byte[ROW];
            piece = largest;
        }

        private void restart(int newFirst, int largest) {
            start = 0;
            count = 0;
            sent = 0;
            first = newFirst;
            oldest = newFirst;
            next = newFirst;
            closed = false;
            lastSent = false;
            piece = largest;
            windowIs(0, 0, 0);
        }

        private int space() {
            return ROW - count;
        }

        private void append(byte value) {
            row[(start + count) & PLACE] = value;
            count++;
        }

        private int unsent() {
            return count - sent;
        }

        private boolean hasNew() {
            return unsent() > 0 || closed && !lastSent;
        }

        private boolean hasUnthanked() {
            return oldest != next;
        }

        private boolean lastIsThanked() {
            return lastSent && !hasUnthanked();
        }

        /** How many numbers from NEXT on the peer's window lets be sent: below 0 if it has shrunk. */
        private int allowed() {
            return window - (next - oldest);
        }

        private int newBytes() {
            return Math.max(0, Math.min(unsent(), Math.min(piece, allowed())));
        }

        private boolean newHasLast() {
            int n = newBytes();
            return closed && !lastSent && n == unsent() && n < allowed();
        }

        private boolean maySend() {
            return newBytes() > 0 || newHasLast();
        }

        private void copyTo(Segment segment, int offset, int n) {
            segment.count = 0;
            for (int i = 0; i < n; i++) {
                segment.append(row[(start + offset + i) & PLACE]);
            }
        }

        private void wasSent(int n, boolean withLast) {
            sent += n;
            next += n;
            if (withLast) {
                lastSent = true;
                next++;
            }
        }

        private void thank(int thanked) {
            // OPEN and LAST have numbers, but no place in the row; while OPEN is not thanked for, no byte was sent
            int gone = Math.min(sent, thanked - oldest);
            start = (start + gone) & PLACE;
            count -= gone;
            sent -= gone;
            oldest = thanked;
        }

        private void windowIs(int newWindow, int number, int thanked) {
            window = newWindow;
            windowNumber = number;
            windowThanked = thanked;
        }

        /** A segment that came late must not bring an old window back. */
        private boolean windowIsOlderThan(Segment segment) {
            return isBefore(windowNumber, segment.number)
                    || windowNumber == segment.number && isNotBehind(windowThanked, segment.thanked);
        }
    }

    /** The peer's numbers and the row IN: each byte stands at its number's place, from when it comes until it is read. */
    private static final class Incoming {
        private static final int NOT_THERE = -1;

        private final int[] row;
        private boolean opened;
        private int expected;
        private int readable;
        private int readNumber;
        private boolean lastKnown;
        private int lastNumber;
        private boolean over;

        Incoming() {
            row = new int[ROW];
            Arrays.fill(row, NOT_THERE);
        }

        private void restart() {
            Arrays.fill(row, NOT_THERE);
            opened = false;
            expected = 0;
            readable = 0;
            readNumber = 0;
            lastKnown = false;
            lastNumber = 0;
            over = false;
        }

        private void open(int number) {
            opened = true;
            expected = number;
            readNumber = number;
        }

        private int room() {
            return ROW - readable;
        }

        private boolean fits(int number, int size) {
            int ahead = number - expected;
            if (size == 0) {
                return ahead == 0 || ahead > 0 && ahead < room();
            }
            return room() > 0 && ahead > -size && ahead < room();
        }

        /** Stores what is new of the bytes of a segment that fits: the one that came first stays. */
        private void store(Segment segment) {
            int ahead = segment.number - expected;
            int from = Math.max(0, -ahead);
            int to = Math.min(segment.count, room() - ahead);
            for (int i = from; i < to; i++) {
                int place = (segment.number + i) & PLACE;
                if (row[place] == NOT_THERE) {
                    row[place] = segment.bytes[i] & 255;
                }
            }
        }

        private void noteLast(int number) {
            int ahead = number - expected;
            if (!lastKnown && ahead >= 0 && ahead < room()) {
                lastKnown = true;
                lastNumber = number;
            }
        }

        /** Moves EXPECTED on; a full row ends it, as the next place is then that of the first unread byte. */
        private void goOn() {
            while (readable < ROW && !isAtLast() && row[expected & PLACE] != NOT_THERE) {
                expected++;
                readable++;
            }
            if (isAtLast()) {
                expected++;
                over = true;
            }
        }

        private boolean isAtLast() {
            return lastKnown && expected == lastNumber;
        }

        private int takeByte() {
            int place = readNumber & PLACE;
            int value = row[place];
            row[place] = NOT_THERE;
            readNumber++;
            readable--;
            return value;
        }
    }

    /** The time, the alarm, and the measuring that tells how long to wait. */
    private static final class Watch {
        private static final int FIRST_WAIT = 60;
        private static final int SHORTEST_WAIT = 20;
        private static final int LONGEST_WAIT = 1200;

        private int time;
        private boolean alarmOn;
        private int alarmAt;
        private int tries;
        private int wait;
        private boolean everMeasured;
        private int smooth;
        private int spread;
        private boolean measuring;
        private int measureNumber;
        private int measureStart;

        Watch() {
            wait = FIRST_WAIT;
        }

        /** All but the time, which goes on through all streams. */
        private void restart() {
            alarmOn = false;
            alarmAt = 0;
            tries = 0;
            wait = FIRST_WAIT;
            everMeasured = false;
            smooth = 0;
            spread = 0;
            measuring = false;
            measureNumber = 0;
            measureStart = 0;
        }

        private void setAlarm() {
            alarmOn = true;
            alarmAt = time + wait;
        }

        private void setAlarmIfOff() {
            if (!alarmOn) {
                setAlarm();
            }
        }

        private int ticksToAlarm() {
            return alarmOn ? alarmAt - time : 0;
        }

        private void doubleWait() {
            wait = Math.min(2 * wait, LONGEST_WAIT);
        }

        private void measure(int number) {
            if (!measuring) {
                measuring = true;
                measureNumber = number;
                measureStart = time;
            }
        }

        private void endMeasure(int thanked) {
            if (measuring && isNotBehind(measureNumber, thanked)) {
                measuring = false;
                learn(time - measureStart);
            }
        }

        private void learn(int ticks) {
            if (everMeasured) {
                int off = ticks - smooth / 8;
                smooth += off;
                spread += Math.abs(off) - spread / 4;
            } else {
                everMeasured = true;
                smooth = 8 * ticks;
                spread = 2 * ticks;
            }
            int fitting = smooth / 8 + Math.max(spread, 1);
            wait = Math.max(SHORTEST_WAIT, Math.min(fitting, LONGEST_WAIT));
        }
    }

    /** What is to be sent, but for what is new: that can be seen from OUT and the peer's window. */
    private static final class Due {
        private boolean reset;
        private int resetFlags;
        private int resetNumber;
        private int resetThanked;
        private boolean open;
        private boolean openWasSent;
        private boolean again;
        private boolean probe;
        private boolean thanks;

        /** All but a reset, which answers somebody outside the new stream. */
        private void restart() {
            dropStream();
            openWasSent = false;
            thanks = false;
        }

        private void dropStream() {
            open = false;
            again = false;
            probe = false;
        }

        private void resetIs(int flags, int number, int thanked) {
            reset = true;
            resetFlags = flags;
            resetNumber = number;
            resetThanked = thanked;
        }
    }
}
