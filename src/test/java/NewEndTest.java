/** Promise 1: a new object. */
public final class NewEndTest {
    public static void main(String[] args) {
        isFreeAndEmpty();
        ownLargestHasBounds();
        quietTimeHasBounds();
        Script.finish();
    }

    private static void isFreeAndEmpty() {
        new Script("a new end", 100, 50).state(Script.FREE)
                .figures(Script.OLDEST, 0, Script.NEXT, 0, Script.WINDOW, 0, Script.EXPECTED, 0, Script.ROOM, 2048,
                        Script.WAIT, 60, Script.OUT_BYTES, 0, Script.READABLE, 0, Script.TRIES, 0, Script.PIECE, 100,
                        Script.SMOOTH, 0, Script.SPREAD, 0, Script.ALARM, 0)
                .sendsNothing()
                .illegalState("read()", e -> e.read())
                .illegalState("write", e -> e.write(1, 1))
                .illegalState("close()", e -> e.close())
                .illegalState("abort()", e -> e.abort())
                .run(1, 1).state(Script.FREE);
    }

    private static void ownLargestHasBounds() {
        int[][] toldAndKept = {{1, 1}, {1460, 1460}, {536, 536}, {0, 536}, {-1, 536}, {1461, 536},
            {Integer.MAX_VALUE, 536}, {Integer.MIN_VALUE, 536}};
        for (int[] pair : toldAndKept) {
            new Script("largest " + pair[0], pair[0], 50).figures(Script.PIECE, pair[1])
                    .begin(7, false).figures(Script.PIECE, pair[1])
                    .sends(Script.O, 7, 0, 2048, pair[1], "");
        }
    }

    private static void quietTimeHasBounds() {
        int[][] toldAndKept = {{1, 1}, {2, 2}, {4000, 4000}, {0, 2000}, {-1, 2000}, {4001, 2000},
            {Integer.MAX_VALUE, 2000}, {Integer.MIN_VALUE, 2000}};
        for (int[] pair : toldAndKept) {
            Script s = new Script("quiet " + pair[0], 100, pair[0]).begin(1000, false)
                    .sends(Script.O, 1000, 0)
                    .arrive(Script.O + Script.T, 5000, 1001, 9, 0, Script.ON).close()
                    .sends(Script.L + Script.T, 1001, 0)
                    .arrive(Script.T + Script.L, 5001, 1002, 9, 0, Script.QUIET);
            int time = 0;
            while (pair[1] - time > 1) {
                int step = Math.min(2000, pair[1] - 1 - time);
                time += step;
                s.run(step, time).state(Script.QUIET);
            }
            s.run(1, time + 1).state(Script.FREE);
        }
    }
}
