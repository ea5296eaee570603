/** Promise 5: close. */
public final class CloseTest {
    public static void main(String[] args) {
        endsWhatHasNoPeer();
        leavesWhatIsOn();
        waitsWhenAnswering();
        isDoneOnce();
        sendsLastBehindTheBytes();
        Script.finish();
    }

    private static void endsWhatHasNoPeer() {
        new Script("LISTENING", 100, 50).begin(9, true).close().state(Script.FREE)
                .figures(Script.OLDEST, 9, Script.NEXT, 9).sendsNothing();
        new Script("ASKING, not sent", 100, 50).begin(9, false).write("a").close().state(Script.FREE).sendsNothing()
                .figures(Script.OLDEST, 9, Script.NEXT, 10, Script.OUT_BYTES, 1);
        new Script("ASKING, sent", 100, 50).begin(9, false).sends(Script.O, 9, 0).close().state(Script.FREE)
                .figures(Script.ALARM, 0).run(200, 200).sendsNothing().figures(Script.TRIES, 0);
        new Script("a reset stays to be sent", 100, 50).begin(9, true).arrive(Script.T, 5, 6, 0, 0, Script.LISTENING)
                .close().sends(Script.R, 6, 0, 0, 0, "").sendsNothing();
    }

    private static void leavesWhatIsOn() {
        Script.answered("ON", 100, 9, 0).close().state(Script.LEAVING)
                .sends(Script.L + Script.T, 1001, 5001, 2048, 0, "").figures(Script.NEXT, 1002, Script.ALARM, 20)
                .sendsNothing();
        Script.answered("ALONE", 100, 9, 0).arrive(Script.L + Script.T, 5001, 1001, 9, 0, Script.ALONE)
                .close().state(Script.ENDING).sends(Script.L + Script.T, 1001, 5002, 2048, 0, "").sendsNothing()
                .arrive(Script.T, 5002, 1002, 9, 0, Script.FREE);
    }

    private static void waitsWhenAnswering() {
        new Script("ANSWERING", 100, 50).begin(1000, true).arrive(Script.O, 5000, 0, 9, 0, Script.ANSWERING)
                .write("ab").close().state(Script.ANSWERING)
                .sends(Script.O + Script.T, 1000, 5001, 2048, 100, "").sendsNothing()
                .arrive(Script.T, 5001, 1001, 9, 0, Script.LEAVING)
                .sends(Script.L + Script.T, 1001, 5001, 2048, 0, "ab").sendsNothing();
        new Script("ANSWERING, reset, and open again", 100, 50).begin(1000, true)
                .arrive(Script.O, 5000, 0, 9, 0, Script.ANSWERING).write("ab").close()
                .arrive(Script.R, 5001, 0, 0, 0, Script.LISTENING)
                .arrive(Script.O, 6000, 0, 9, 0, Script.ANSWERING).write("c")
                .arrive(Script.T, 6001, 1001, 9, 0, Script.ON).sends(Script.T, 1001, 6001, 2048, 0, "c");
    }

    private static void isDoneOnce() {
        new Script("closed twice", 100, 50).illegalState("close() when FREE", e -> e.close()).begin(1000, true)
                .arrive(Script.O, 5000, 0, 9, 0, Script.ANSWERING).close()
                .illegalState("close() when ANSWERING", e -> e.close())
                .arrive(Script.T, 5001, 1001, 9, 0, Script.LEAVING)
                .illegalState("close() when LEAVING", e -> e.close()).sends(Script.L + Script.T, 1001, 0)
                .arrive(Script.T, 5001, 1002, 9, 0, Script.LEFT).illegalState("close() when LEFT", e -> e.close())
                .arrive(Script.T + Script.L, 5001, 1002, 9, 0, Script.QUIET)
                .illegalState("close() when QUIET", e -> e.close()).abort()
                .illegalState("close() when ABORTED", e -> e.close());
        Script.answered("closed twice, the peer first", 100, 9, 0)
                .arrive(Script.T + Script.L, 5001, 1001, 9, 0, Script.ALONE).close()
                .illegalState("close() when ENDING", e -> e.close());
        Script.answered("closed twice, both", 100, 9, 0).close()
                .arrive(Script.T + Script.L, 5001, 1001, 9, 0, Script.PARTING)
                .illegalState("close() when PARTING", e -> e.close());
    }

    private static void sendsLastBehindTheBytes() {
        Script.answered("LAST in the last piece", 4, 99, 0).write("abcdefgh").close()
                .sends(Script.T, 1001, 5001, 2048, 0, "abcd")
                .sends(Script.L + Script.T, 1005, 5001, 2048, 0, "efgh").figures(Script.NEXT, 1010).sendsNothing();
        Script.answered("LAST alone, bytes were sent", 8, 99, 0).write("abcdefgh")
                .sends(Script.T, 1001, 5001, 2048, 0, "abcdefgh").close()
                .sends(Script.L + Script.T, 1009, 5001, 2048, 0, "").sendsNothing();
        Script.answered("the window has no number for LAST", 8, 8, 0).write("abcdefgh").close()
                .sends(Script.T, 1001, 5001, 2048, 0, "abcdefgh").sendsNothing()
                .arrive(Script.T, 5001, 1002, 8, 0, Script.LEAVING)
                .sends(Script.L + Script.T, 1009, 5001, 2048, 0, "").sendsNothing();
        Script.answered("LAST is thanked for with the bytes", 8, 99, 0).write("ab").close()
                .sends(Script.L + Script.T, 1001, 5001, 2048, 0, "ab")
                .arrive(Script.T, 5001, 1003, 9, 0, Script.LEAVING).figures(Script.OUT_BYTES, 0)
                .arrive(Script.T, 5001, 1004, 9, 0, Script.LEFT).figures(Script.OLDEST, 1004, Script.ALARM, 0);
    }
}
