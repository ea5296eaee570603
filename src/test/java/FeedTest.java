/** Promise 11: feed. */
public final class FeedTest {
    public static void main(String[] args) {
        addsTheLowestBytes();
        refusesWrongCounts();
        hasAnEnd();
        isUsedUpByEverySegment();
        Script.finish();
    }

    private static void addsTheLowestBytes() {
        Script.answered("lowest bytes, highest first", 100, 99, 0)
                .feed(0x0102030405060708L, 3, 3).feed(-1L, 1, 4).feed(0x8070605040302010L, 8, 12)
                .arrive(Script.T, 5001, 1001, 9, 0, Script.ON).figures(Script.READABLE, 12)
                .read("\u0006\u0007\u0008\u00ff\u0080\u0070\u0060\u0050\u0040\u0030\u0020\u0010")
                .read(StreamEnd.NONE).feed(5, 1, 1);
    }

    private static void refusesWrongCounts() {
        int[] wrong = {0, -1, 9, Integer.MAX_VALUE, Integer.MIN_VALUE};
        Script s = new Script("wrong counts", 100, 50);
        for (int n : wrong) {
            s.illegalArgument("feed(.., " + n + ")", e -> e.feed(5, n));
        }
        s.feed(1, 8, 8);
    }

    private static void hasAnEnd() {
        Script s = new Script("1460 bytes", 100, 50);
        for (int i = 1; i <= 182; i++) {
            s.feed(0x6162636465666768L, 8, 8 * i);
        }
        s.illegalState("feed 5 to 1456", e -> e.feed(1, 5)).illegalState("feed 8 to 1456", e -> e.feed(1, 8))
                .feed(0x31323334, 4, 1460).illegalState("feed 1 to 1460", e -> e.feed(1, 1))
                .illegalArgument("feed 9 to 1460", e -> e.feed(1, 9))
                .arrive(0, 10, 0, 0, 0, Script.FREE).sends(Script.R + Script.T, 0, 1470, 0, 0, "").feed(1, 1, 1);
    }

    private static void isUsedUpByEverySegment() {
        new Script("used up", 100, 50).feed("abc").arrive(Script.T, 1, 2, 0, 0, Script.FREE).feed(1, 1, 1)
                .illegalArgument("arrive(16, ..)", e -> e.arrive(16, 0, 0, 0, 0)).feed(1, 1, 2)
                .begin(5, true).arrive(Script.R, 1, 2, 0, 0, Script.LISTENING).feed(1, 2, 2)
                .arrive(Script.O, 9, 0, 50, 0, Script.ANSWERING).figures(Script.READABLE, 0, Script.EXPECTED, 10)
                .feed(1, 1, 1).arrive(0, 400, 0, 0, 0, Script.ANSWERING).feed(1, 1, 1);
    }
}
