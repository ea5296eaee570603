import java.util.Random;
import java.util.function.IntSupplier;

/** Runs of calls that seek the document's edges, on a StreamEnd and on a PlainEnd: both answer the same. */
public final class PlainEndTest {
    private static final int RUNS = 12000;
    private static final int MOST_CALLS = 512;
    private static final int LOOK = 14;

    private final Random r;
    private final String name;
    private final StreamEnd end;
    private final PlainEnd plain;
    private final int looks;
    private final int roughness;
    private int calls = 0;
    private boolean same = true;

    private PlainEndTest(int seed) {
        r = new Random(seed);
        name = "seed " + seed;
        int largest = pick(1, 2, 5, 100, 536, 1024, 1460, r.nextInt(1600) - 50);
        int quiet = pick(1, 5, 50, r.nextInt(4200) - 50);
        end = new StreamEnd(largest, quiet);
        plain = new PlainEnd(largest, quiet);
        looks = pick(1, 4, 30);
        roughness = pick(2, 10, 40);
    }

    public static void main(String[] args) {
        for (int seed = 0; seed < RUNS; seed++) {
            new PlainEndTest(seed).go();
        }
        Script.finish();
    }

    private int pick(int... of) {
        return of[r.nextInt(of.length)];
    }

    private boolean mayCall(int n) {
        return same && calls + n + LOOK <= MOST_CALLS;
    }

    private void go() {
        while (mayCall(LOOK + 8)) {
            act();
            if (r.nextInt(looks) == 0) {
                look();
            }
        }
        look();
    }

    private void look() {
        for (int i = 0; i < 13; i++) {
            int what = i;
            compare("figure(" + i + ")", () -> end.figure(what), () -> plain.figure(what));
        }
        compare("state()", end::state, plain::state);
    }

    private void compare(String call, IntSupplier one, IntSupplier other) {
        if (!same) {
            return;
        }
        calls++;
        String got = answer(one);
        String want = answer(other);
        if (!got.equals(want)) {
            same = false;
            Script.note(name + ", call " + calls + ": " + call + " answered " + got + ", due is " + want);
        }
    }

    private static String answer(IntSupplier call) {
        try {
            return String.valueOf(call.getAsInt());
        } catch (RuntimeException e) {
            return e.getClass().getName();
        }
    }

    private static int done(Runnable call) {
        call.run();
        return 0;
    }

    private void act() {
        int kind = r.nextInt(100);
        int state = plain.state();
        boolean ended = state == Script.FREE || state == Script.ABORTED;
        if (kind < (ended ? 40 : 1)) {
            int first = pick(1000, 0, -1, Integer.MAX_VALUE, Integer.MAX_VALUE - 3, Integer.MIN_VALUE, r.nextInt());
            boolean listening = r.nextBoolean();
            compare("begin", () -> done(() -> end.begin(first, listening)),
                    () -> done(() -> plain.begin(first, listening)));
        } else if (kind < 50) {
            arrive();
        } else if (kind < 62) {
            next();
        } else if (kind < 72) {
            write(r.nextInt(25) == 0 ? 256 : 1);
        } else if (kind < 80) {
            read(pick(1, 1, 2, 9, 40));
        } else if (kind < 92) {
            ticks();
        } else if (kind < 95) {
            compare("close()", () -> done(end::close), () -> done(plain::close));
        } else if (kind < 96) {
            if (r.nextInt(roughness) == 0) {
                compare("abort()", () -> done(end::abort), () -> done(plain::abort));
            }
        } else if (kind < 98) {
            int what = r.nextInt(8) - 1;
            compare("segment(" + what + ")", () -> end.segment(what), () -> plain.segment(what));
        } else {
            int i = pick(-1, 0, 1, r.nextInt(1500));
            compare("byteAt(" + i + ")", () -> end.byteAt(i), () -> plain.byteAt(i));
        }
    }

    private void ticks() {
        int alarm = plain.figure(12);
        boolean toTheAlarm = alarm > 0 && r.nextInt(3) > 0;
        int n = toTheAlarm ? alarm + pick(-1, 0, 0, 1) : pick(1, 3, 49, 50, 2000, r.nextInt(2100) - 20);
        compare("run(" + n + ")", () -> end.run(n), () -> plain.run(n));
    }

    private void write(int times) {
        for (int k = 0; k < times && mayCall(1); k++) {
            long bytes = r.nextLong();
            int n = times > 1 ? 8 : r.nextInt(40) == 0 ? pick(-1, 0, 9) : 1 + r.nextInt(8);
            compare("write(.., " + n + ")", () -> end.write(bytes, n), () -> plain.write(bytes, n));
        }
    }

    private void read(int times) {
        for (int k = 0; k < times && mayCall(1); k++) {
            compare("read()", end::read, plain::read);
        }
    }

    private void next() {
        compare("next()", () -> end.next() ? 1 : 0, () -> plain.next() ? 1 : 0);
        int[] parts = {0, 1, 2, 3, 4, 5};
        for (int what : parts) {
            compare("segment(" + what + ")", () -> end.segment(what), () -> plain.segment(what));
        }
    }

    private void feed(int count) {
        int left = count;
        while (left > 0 && mayCall(2)) {
            long bytes = r.nextLong();
            int n = Math.min(8, left);
            left -= n;
            compare("feed(.., " + n + ")", () -> end.feed(bytes, n), () -> plain.feed(bytes, n));
        }
        if (r.nextInt(60) == 0) {
            int n = pick(-1, 0, 8, 9);
            compare("feed(.., " + n + ")", () -> end.feed(5, n), () -> plain.feed(5, n));
        }
    }

    private void arrive() {
        int count = r.nextInt(3) > 0 ? 0 : r.nextInt(16) == 0 ? pick(1460, 1024, 588, 600) : pick(1, 2, 3, 20);
        feed(count);
        int flags = anyFlags();
        int number = anyNumber(count, flags);
        int thanked = anyThanked();
        int window = anyWindow();
        int largest = r.nextInt(80) == 0 ? pick(-1, 65536) : pick(0, 1, 99, 100, 101, 536, 1460, 65535);
        compare("arrive(" + flags + ", " + number + ", " + thanked + ", " + window + ", " + largest + ")",
                () -> end.arrive(flags, number, thanked, window, largest),
                () -> plain.arrive(flags, number, thanked, window, largest));
    }

    private int anyFlags() {
        if (r.nextInt(roughness) == 0) {
            return r.nextInt(18) - 1;
        }
        int state = plain.state();
        if (state == Script.LISTENING) {
            return Script.O;
        }
        if (state == Script.ASKING) {
            return pick(Script.O, Script.O + Script.T, Script.O + Script.T);
        }
        return r.nextInt(12) == 0 ? Script.T + Script.L : Script.T;
    }

    private int anyNumber(int count, int flags) {
        int expected = plain.figure(3);
        int room = plain.figure(4);
        int size = count + (flags & 1) + (flags >> 1 & 1);
        if (r.nextInt(roughness) > 0) {
            return expected + (r.nextInt(6) == 0 ? r.nextInt(25) : 0);
        }
        return pick(expected - 1, expected + 1, expected - size, expected - size + 1, expected + room - 1, expected + room,
                expected + room - size, expected + room - size + 1, expected + Integer.MIN_VALUE,
                expected - size + Integer.MIN_VALUE, expected + Integer.MAX_VALUE, r.nextInt());
    }

    private int anyThanked() {
        int oldest = plain.figure(0);
        int next = plain.figure(1);
        if (r.nextInt(roughness) > 0) {
            int way = next - oldest;
            return pick(next, oldest, oldest + (way > 0 ? r.nextInt(way + 1) : 0));
        }
        return pick(oldest - 1, oldest + 1, next - 1, next + 1, oldest + Integer.MIN_VALUE, next + Integer.MIN_VALUE,
                next + Integer.MAX_VALUE, oldest + Integer.MAX_VALUE, r.nextInt());
    }

    private int anyWindow() {
        int way = plain.figure(1) - plain.figure(0);
        return r.nextInt(80) == 0 ? pick(-1, 65536) : pick(0, 0, 1, way, way + 1, way + 2, 100, 2048, 65535);
    }
}
