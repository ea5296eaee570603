/** Promise 3: write. */
public final class WriteTest {
    public static void main(String[] args) {
        takesTheLowestBytes();
        takesNoMoreThanThereIsRoomFor();
        refusesWrongCounts();
        isForAnOpenEnd();
        goesOnRoundTheRow();
        Script.finish();
    }

    private static void takesTheLowestBytes() {
        Script.answered("lowest bytes, highest first", 100, 99, 0)
                .write(0x0102030405060708L, 3, 3).write(-1L, 1, 1).write(0x8070605040302010L, 8, 8)
                .write(0xFFFFFFFFFFFFFF00L, 2, 2)
                .figures(Script.OUT_BYTES, 14)
                .sends(Script.T, 1001, 5001, 2048, 0,
                        "\u0006\u0007\u0008\u00ff\u0080\u0070\u0060\u0050\u0040\u0030\u0020\u0010\u00ff\u0000");
    }

    private static void takesNoMoreThanThereIsRoomFor() {
        Script s = new Script("a full row", 1460, 50).begin(1000, false);
        for (int i = 0; i < 255; i++) {
            s.write(0x6162636465666768L, 8, 8);
        }
        s.write("12345").figures(Script.OUT_BYTES, 2045).write(0x4142434445464748L, 8, 3)
                .figures(Script.OUT_BYTES, 2048).write(1, 1, 0).write(1, 8, 0)
                .figures(Script.OUT_BYTES, 2048)
                .sends(Script.O, 1000, 0).arrive(Script.O + Script.T, 5000, 1001, 65535, 1460, Script.ON)
                .figures(Script.OUT_BYTES, 2048)
                .sends(Script.T, 1001, 1460).sends(Script.T, 2461, 588).byteAt(587, 'C').byteAt(585, 'A')
                .byteAt(584, '5').byteAt(579, 'h')
                .arrive(Script.T, 5001, 1003, 65535, 0, Script.ON).figures(Script.OUT_BYTES, 2046)
                .write(0x797a, 8, 2).figures(Script.OUT_BYTES, 2048)
                .arrive(Script.T, 5001, 3049, 65535, 0, Script.ON).figures(Script.OUT_BYTES, 2)
                .sends(Script.T, 3049, 5001, 2048, 0, "\u0000\u0000");
    }

    private static void refusesWrongCounts() {
        int[] wrong = {0, -1, 9, Integer.MAX_VALUE, Integer.MIN_VALUE};
        Script s = Script.answered("wrong counts", 100, 99, 0);
        for (int n : wrong) {
            s.illegalArgument("write(.., " + n + ")", e -> e.write(5, n));
        }
        s.figures(Script.OUT_BYTES, 0).close();
        s.illegalArgument("write(.., 0) when closed", e -> e.write(5, 0));
        s.illegalState("write when closed", e -> e.write(5, 1));
        new Script("wrong count when free", 100, 50).illegalArgument("write(.., 9)", e -> e.write(5, 9));
    }

    private static void isForAnOpenEnd() {
        Script s = new Script("who may write", 100, 50)
                .illegalState("write when FREE", e -> e.write(1, 1)).begin(1000, true)
                .illegalState("write when LISTENING", e -> e.write(1, 1))
                .arrive(Script.O, 5000, 0, 9, 0, Script.ANSWERING).write("a").close()
                .illegalState("write when ANSWERING and closed", e -> e.write(1, 1))
                .arrive(Script.T, 5001, 1001, 9, 0, Script.LEAVING)
                .illegalState("write when LEAVING", e -> e.write(1, 1))
                .sends(Script.T + Script.L, 1001, 5001, 2048, 0, "a")
                .arrive(Script.T, 5001, 1003, 9, 0, Script.LEFT)
                .illegalState("write when LEFT", e -> e.write(1, 1))
                .arrive(Script.T + Script.L, 5001, 1003, 9, 0, Script.QUIET)
                .illegalState("write when QUIET", e -> e.write(1, 1)).abort()
                .illegalState("write when ABORTED", e -> e.write(1, 1));
        s.begin(50, false).write("b").figures(Script.OUT_BYTES, 1);
        Script.answered("who may write alone", 100, 9, 0)
                .arrive(Script.T + Script.L, 5001, 1001, 9, 0, Script.ALONE).write("c")
                .sends(Script.T, 1001, 5002, 2048, 0, "c").close()
                .illegalState("write when ENDING", e -> e.write(1, 1));
        Script.answered("who may write parting", 100, 9, 0).close()
                .arrive(Script.T + Script.L, 5001, 1001, 9, 0, Script.PARTING)
                .illegalState("write when PARTING", e -> e.write(1, 1));
    }

    private static void goesOnRoundTheRow() {
        Script s = Script.answered("round the row", 1024, 65535, 1024);
        int number = 1001;
        for (int turn = 0; turn < 3; turn++) {
            s.write(Script.times("abcdefgh", 127)).write("12345").sends(Script.T, number, 1021);
            s.byteAt(0, 'a').byteAt(1015, 'h').byteAt(1016, '1').byteAt(1020, '5');
            number += 1021;
            s.arrive(Script.T, 5001, number, 65535, 0, Script.ON).figures(Script.OUT_BYTES, 0, Script.OLDEST, number);
        }
    }
}
