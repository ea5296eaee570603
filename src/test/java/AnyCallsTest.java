import java.util.Arrays;
import java.util.Random;

/**
 * Any calls in any order with any arguments: only the document's exceptions come, a call that throws changes nothing,
 * and what the document says of all ends holds after each call.
 */
public final class AnyCallsTest {
    private static final int RUNS = 20000;
    private static final int MOST_CALLS = 512;
    private static final int CALLS_OF_A_LOOK = 28;

    private final Random r;
    private final StreamEnd end;
    private final String name;
    private int calls = 0;

    private AnyCallsTest(int seed) {
        r = new Random(seed);
        end = new StreamEnd(r.nextInt(4) == 0 ? r.nextInt() : 1 + r.nextInt(1460), 1 + r.nextInt(200));
        name = "seed " + seed;
    }

    public static void main(String[] args) {
        for (int seed = 0; seed < RUNS; seed++) {
            new AnyCallsTest(seed).go();
        }
        Script.finish();
    }

    private void go() {
        while (calls < MOST_CALLS - 3 - CALLS_OF_A_LOOK) {
            if (r.nextInt(60) == 0) {
                look();
            } else {
                attempt();
            }
        }
    }

    private void look() {
        int[] before = figures();
        String call = attempt();
        int[] after = figures();
        if (call.isEmpty() && !Arrays.equals(before, after)) {
            Script.note(name + ", call " + calls + ": a call that threw changed a figure");
        }
        check(call, before, after);
    }

    /** Makes any call: its name, or nothing if it threw. */
    private String attempt() {
        calls++;
        try {
            return anyCall();
        } catch (RuntimeException e) {
            Class<?> c = e.getClass();
            if (c != IllegalArgumentException.class && c != IllegalStateException.class
                    && c != IndexOutOfBoundsException.class) {
                Script.note(name + ", call " + calls + ": the machine threw " + e);
            }
            return "";
        }
    }

    private int[] figures() {
        calls += 14;
        int[] all = new int[14];
        for (int i = 0; i < 13; i++) {
            all[i] = end.figure(i);
        }
        all[13] = end.state();
        return all;
    }

    private String anyCall() {
        switch (r.nextInt(16)) {
            case 0:
                end.begin(r.nextBoolean() ? r.nextInt() : Integer.MAX_VALUE - r.nextInt(9), r.nextBoolean());
                return "begin";
            case 1: case 2:
                end.write(r.nextLong(), r.nextInt(10));
                return "write";
            case 3:
                end.read();
                return "read";
            case 4:
                if (r.nextInt(3) == 0) {
                    end.close();
                }
                return "close";
            case 5:
                if (r.nextInt(12) == 0) {
                    end.abort();
                }
                return "abort";
            case 6:
                end.run(r.nextInt(9) == 0 ? r.nextInt(2002) : r.nextInt(50));
                return "run";
            case 7: case 8:
                end.next();
                return "next";
            case 9:
                end.segment(r.nextInt(8) - 1);
                return "segment";
            case 10:
                end.byteAt(r.nextInt(9) - 1);
                return "byteAt";
            case 11: case 12:
                end.feed(r.nextLong(), r.nextInt(10));
                return "feed";
            default:
                calls += 2;
                end.arrive(anyFlags(), near(end.figure(3), 3), near(end.figure(r.nextInt(2)), 2),
                        r.nextInt(3) == 0 ? 0 : r.nextInt(66000), r.nextInt(3) == 0 ? 0 : r.nextInt(66000));
                return "arrive";
        }
    }

    private int anyFlags() {
        int[] likely = {8, 8, 8, 8, 10, 9, 1, 12};
        return r.nextInt(5) == 0 ? r.nextInt(18) - 1 : likely[r.nextInt(likely.length)];
    }

    private int near(int number, int off) {
        int kind = r.nextInt(10);
        if (kind == 0) {
            return r.nextInt();
        }
        if (kind == 1) {
            return number + Integer.MIN_VALUE + r.nextInt(3) - 1;
        }
        return kind < 5 ? number + r.nextInt(2 * off + 1) - off : number;
    }

    private void check(String call, int[] before, int[] f) {
        int state = f[13];
        expect("a state", state >= 0 && state <= 11);
        expect("rows hold 2048 at most", f[6] >= 0 && f[6] <= 2048 && f[7] >= 0 && f[7] <= 2048);
        expect("ROOM is 2048 less what can be read", f[4] == 2048 - f[7]);
        expect("NEXT is not far from OLDEST", f[1] - f[0] >= 0 && f[1] - f[0] <= 2050);
        expect("WAIT is 20 to 1200", f[5] >= 20 && f[5] <= 1200);
        expect("the alarm comes within WAIT", f[12] >= 0 && f[12] <= 1200);
        expect("tries are 0 to 9", f[8] >= 0 && (f[8] <= 8 || f[8] == 9 && state == 11));
        expect("a piece", f[9] >= 1 && f[9] <= 1460);
        expect("SMOOTH and SPREAD are not below 0", f[10] >= 0 && f[11] >= 0);
        boolean mayRing = state >= 2 && state <= 9 && state != 6;
        expect("no alarm without a stream", mayRing || f[12] == 0);
        if (state >= 4 && state <= 9 && f[1] != f[0]) {
            expect("what was sent and not thanked for has an alarm", f[12] > 0);
        }
        if (call.equals("next") && state >= 4 && state <= 9 && f[1] != before[1]) {
            expect("new numbers are in the window, or one as a probe",
                    f[1] - f[0] <= f[2] || f[1] - before[1] == 1 && f[2] == 0);
        }
    }

    private void expect(String what, boolean holds) {
        if (!holds) {
            Script.note(name + ", call " + calls + ": " + what);
        }
    }
}
