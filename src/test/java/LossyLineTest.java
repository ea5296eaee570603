import java.util.ArrayList;
import java.util.List;
import java.util.Random;

/** Two ends over a line that loses, doubles and mixes up segments: what is written at one end is read at the other. */
public final class LossyLineTest {
    private static final int MOST_CALLS = 512;

    private static final class Carried {
        final int flags;
        final int number;
        final int thanked;
        final int window;
        final int largest;
        final byte[] bytes;

        Carried(StreamEnd from) {
            flags = from.segment(0);
            number = from.segment(1);
            thanked = from.segment(2);
            window = from.segment(3);
            largest = from.segment(4);
            bytes = new byte[from.segment(5)];
            for (int i = 0; i < bytes.length; i++) {
                bytes[i] = (byte) from.byteAt(i);
            }
        }
    }

    private static final class Side {
        final StreamEnd end;
        final List<Carried> coming = new ArrayList<>();
        final StringBuilder wrote = new StringBuilder();
        final StringBuilder got = new StringBuilder();
        final int toWrite;
        boolean closed;
        boolean over;
        int calls;

        Side(Random r, int toWrite) {
            end = new StreamEnd(1 + r.nextInt(12), 1 + r.nextInt(300));
            this.toWrite = toWrite;
        }
    }

    public static void main(String[] args) {
        int whole = 0;
        for (int seed = 0; seed < 3000; seed++) {
            whole += carry(seed) ? 1 : 0;
        }
        if (whole < 1500) {
            Script.note("only " + whole + " of 3000 streams came to their end");
        }
        Script.finish();
    }

    private static boolean carry(int seed) {
        Random r = new Random(seed);
        Side a = new Side(r, r.nextInt(60));
        Side b = new Side(r, r.nextInt(60));
        int loss = r.nextInt(30);
        a.end.begin(r.nextInt(), false);
        b.end.begin(r.nextInt(), r.nextInt(4) > 0);
        for (int round = 0; round < 400 && a.calls < MOST_CALLS - 100 && b.calls < MOST_CALLS - 100; round++) {
            act(a, b, r, loss);
            act(b, a, r, loss);
            if (a.over && b.over && a.closed && b.closed) {
                break;
            }
        }
        check(seed, a, b);
        check(seed, b, a);
        return a.over && b.over;
    }

    private static void act(Side me, Side other, Random r, int loss) {
        int state = me.end.state();
        if (state == Script.FREE || state == Script.ABORTED) {
            deliver(me, r);
            return;
        }
        if (state != Script.LISTENING && !me.closed) {
            writeOrClose(me, r);
        }
        deliver(me, r);
        int sent = 0;
        while (sent < 3 && me.end.next()) {
            sent++;
            Carried c = new Carried(me.end);
            me.calls += 7 + c.bytes.length;
            if (r.nextInt(100) >= loss) {
                other.coming.add(r.nextInt(other.coming.size() + 1), c);
            }
            if (r.nextInt(100) < loss) {
                other.coming.add(r.nextInt(other.coming.size() + 1), c);
            }
        }
        drain(me);
        me.end.run(1 + r.nextInt(sent == 0 ? 60 : 6));
        me.calls += 2;
    }

    private static void writeOrClose(Side me, Random r) {
        me.calls++;
        if (me.wrote.length() >= me.toWrite) {
            if (me.end.state() != Script.ASKING) {
                me.end.close();
                me.closed = true;
            }
            return;
        }
        int n = 1 + r.nextInt(8);
        long bytes = r.nextLong();
        int taken = me.end.write(bytes, n);
        for (int i = 0; i < taken; i++) {
            me.wrote.append((char) (bytes >>> 8 * (n - 1 - i) & 255));
        }
    }

    private static void deliver(Side me, Random r) {
        for (int k = 0; k < 2 && !me.coming.isEmpty(); k++) {
            Carried c = me.coming.remove(r.nextInt(Math.min(2, me.coming.size())));
            for (byte b : c.bytes) {
                me.end.feed(b, 1);
            }
            me.end.arrive(c.flags, c.number, c.thanked, c.window, c.largest);
            me.calls += 1 + c.bytes.length;
        }
    }

    private static void drain(Side me) {
        for (int k = 0; k < 20; k++) {
            int value;
            try {
                value = me.end.read();
            } catch (IllegalStateException e) {
                return;
            }
            me.calls++;
            if (value < 0) {
                me.over = value == StreamEnd.OVER;
                return;
            }
            me.got.append((char) value);
        }
    }

    private static void check(int seed, Side from, Side to) {
        String wrote = from.wrote.toString();
        String got = to.got.toString();
        if (!wrote.startsWith(got)) {
            Script.note("seed " + seed + ": something else was read than was written");
        }
        if (to.over && !(from.closed && got.equals(wrote))) {
            Script.note("seed " + seed + ": OVER before all was read");
        }
    }
}
