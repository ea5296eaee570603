/** Promise 6: abort. */
public final class AbortTest {
    public static void main(String[] args) {
        resetsThePeer();
        isSilentWithoutPeer();
        isIllegalWhenEnded();
        leavesAllElse();
        Script.finish();
    }

    private static void resetsThePeer() {
        Script.answered("ON", 100, 99, 0).write("abc").sends(Script.T, 1001, 3).write("de")
                .feed("xy").arrive(Script.T, 5001, 1001, 99, 0, Script.ON).abort().state(Script.ABORTED)
                .sends(Script.R + Script.T, 1004, 5003, 0, 0, "").sendsNothing();
        new Script("ANSWERING", 100, 50).begin(1000, true).arrive(Script.O, 5000, 0, 9, 0, Script.ANSWERING).abort()
                .state(Script.ABORTED).sends(Script.R + Script.T, 1001, 5001, 0, 0, "").sendsNothing();
        Script.answered("LEAVING", 100, 99, 0).close().abort().sends(Script.R + Script.T, 1001, 5001, 0, 0, "");
        Script.answered("LEFT", 100, 99, 0).close().sends(Script.L + Script.T, 1001, 0)
                .arrive(Script.T, 5001, 1002, 9, 0, Script.LEFT).abort()
                .sends(Script.R + Script.T, 1002, 5001, 0, 0, "");
        Script.answered("ALONE", 100, 99, 0).arrive(Script.L + Script.T, 5001, 1001, 9, 0, Script.ALONE).abort()
                .sends(Script.R + Script.T, 1001, 5002, 0, 0, "").sendsNothing();
        Script.answered("ENDING", 100, 99, 0).arrive(Script.L + Script.T, 5001, 1001, 9, 0, Script.ALONE).close()
                .abort().sends(Script.R + Script.T, 1001, 5002, 0, 0, "").sendsNothing();
        Script.answered("PARTING", 100, 99, 0).close().arrive(Script.L + Script.T, 5001, 1001, 9, 0, Script.PARTING)
                .abort().sends(Script.R + Script.T, 1001, 5002, 0, 0, "").sendsNothing();
    }

    private static void isSilentWithoutPeer() {
        new Script("LISTENING", 100, 50).begin(1000, true).abort().state(Script.ABORTED).sendsNothing();
        new Script("ASKING", 100, 50).begin(1000, false).abort().state(Script.ABORTED).sendsNothing();
        new Script("ASKING, sent", 100, 50).begin(1000, false).sends(Script.O, 1000, 0).abort().sendsNothing()
                .figures(Script.ALARM, 0).run(100, 100).sendsNothing().figures(Script.TRIES, 0);
        Script.answered("QUIET", 100, 99, 0).close().sends(Script.L + Script.T, 1001, 0)
                .arrive(Script.L + Script.T, 5001, 1002, 9, 0, Script.QUIET).abort().state(Script.ABORTED)
                .sendsNothing().run(100, 100).state(Script.ABORTED);
        new Script("an earlier reset stays", 100, 50).begin(1000, true)
                .arrive(Script.T, 5, 6, 0, 0, Script.LISTENING).abort().sends(Script.R, 6, 0, 0, 0, "").sendsNothing();
        new Script("abort's reset is in place of an earlier one", 100, 50).begin(1000, true)
                .arrive(Script.O, 5000, 0, 9, 0, Script.ANSWERING)
                .arrive(Script.T, 5001, 33, 9, 0, Script.ANSWERING).abort()
                .sends(Script.R + Script.T, 1001, 5001, 0, 0, "").sendsNothing();
    }

    private static void isIllegalWhenEnded() {
        new Script("ended", 100, 50).illegalState("abort() when FREE", e -> e.abort()).begin(1, true).abort()
                .illegalState("abort() when ABORTED", e -> e.abort()).sendsNothing();
    }

    private static void leavesAllElse() {
        Script.answered("figures stay", 100, 7, 40).write("abcdefghi").sends(Script.T, 1001, 7)
                .feed("xyz").arrive(Script.T, 5001, 1003, 9, 0, Script.ON).run(21, 21).abort()
                .figures(Script.OLDEST, 1003, Script.NEXT, 1008, Script.WINDOW, 9, Script.EXPECTED, 5004,
                        Script.ROOM, 2045, Script.WAIT, 40, Script.OUT_BYTES, 7, Script.READABLE, 3,
                        Script.TRIES, 1, Script.PIECE, 40, Script.ALARM, 0)
                .run(100, 121).figures(Script.TRIES, 1).read("xyz");
    }
}
