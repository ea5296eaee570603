/** Promise 2: begin. */
public final class BeginTest {
    public static void main(String[] args) {
        asks();
        listens();
        isForAnEndedOneAlone();
        forgetsTheOldStream();
        forgetsWhatWasMeasured();
        keepsAReset();
        keepsWhatIsOutsideTheStream();
        Script.finish();
    }

    private static void asks() {
        new Script("asking", 100, 50).begin(Integer.MAX_VALUE, false).state(Script.ASKING)
                .figures(Script.OLDEST, Integer.MAX_VALUE, Script.NEXT, Integer.MIN_VALUE, Script.ALARM, 0,
                        Script.EXPECTED, 0)
                .sends(Script.O, Integer.MAX_VALUE, 0, 2048, 100, "")
                .figures(Script.ALARM, 60).sendsNothing();
    }

    private static void listens() {
        new Script("listening", 100, 50).begin(-9, true).state(Script.LISTENING)
                .figures(Script.OLDEST, -9, Script.NEXT, -9, Script.ALARM, 0)
                .sendsNothing().run(2000, 2000).state(Script.LISTENING).sendsNothing();
    }

    private static void isForAnEndedOneAlone() {
        Script s = new Script("begun twice", 100, 50).begin(1, true)
                .illegalState("begin when LISTENING", e -> e.begin(2, true)).figures(Script.OLDEST, 1);
        s.arrive(Script.O, 50, 0, 9, 0, Script.ANSWERING)
                .illegalState("begin when ANSWERING", e -> e.begin(2, true))
                .arrive(Script.T, 51, 2, 9, 0, Script.ON)
                .illegalState("begin when ON", e -> e.begin(2, true)).close()
                .illegalState("begin when LEAVING", e -> e.begin(2, false))
                .sends(Script.L + Script.T, 2, 0)
                .arrive(Script.T, 51, 3, 9, 0, Script.LEFT)
                .illegalState("begin when LEFT", e -> e.begin(2, false))
                .arrive(Script.T + Script.L, 51, 3, 9, 0, Script.QUIET)
                .illegalState("begin when QUIET", e -> e.begin(2, false))
                .run(50, 50).begin(2, false)
                .illegalState("begin when ASKING", e -> e.begin(3, false)).abort().begin(4, true)
                .state(Script.LISTENING).figures(Script.OLDEST, 4);
        Script.answered("begun when ALONE", 100, 9, 0)
                .arrive(Script.T + Script.L, 5001, 1001, 9, 0, Script.ALONE)
                .illegalState("begin when ALONE", e -> e.begin(2, true)).close().state(Script.ENDING)
                .illegalState("begin when ENDING", e -> e.begin(2, true));
        Script.answered("begun when PARTING", 100, 9, 0).close()
                .arrive(Script.T + Script.L, 5001, 1001, 9, 0, Script.PARTING)
                .illegalState("begin when PARTING", e -> e.begin(2, true));
    }

    private static void forgetsTheOldStream() {
        Script.answered("a new stream", 100, 30, 7).write("abcdefghij").sends(Script.T, 1001, 7)
                .feed("xyz").arrive(Script.T, 5001, 1001, 30, 0, Script.ON)
                .feed("late").arrive(Script.T, 5010, 1001, 31, 0, Script.ON).read("x")
                .close().run(60, 60).arrive(Script.R, 5004, 0, 0, 0, Script.ABORTED)
                .figures(Script.OUT_BYTES, 10, Script.READABLE, 2, Script.TRIES, 2, Script.WINDOW, 31)
                .begin(77, false)
                .figures(Script.OLDEST, 77, Script.NEXT, 78, Script.WINDOW, 0, Script.EXPECTED, 0, Script.ROOM, 2048,
                        Script.WAIT, 60, Script.OUT_BYTES, 0, Script.READABLE, 0, Script.TRIES, 0, Script.PIECE, 100,
                        Script.SMOOTH, 0, Script.SPREAD, 0, Script.ALARM, 0)
                .read(StreamEnd.NONE)
                .sends(Script.O, 77, 0, 2048, 100, "").sendsNothing()
                .write("new").arrive(Script.O + Script.T, 4999, 78, 50, 0, Script.ON)
                .sends(Script.T, 78, 5000, 2048, 0, "new")
                // what came out of order in the old stream must not be taken for this one's
                .feed("0123456789").arrive(Script.T, 5000, 81, 50, 0, Script.ON).figures(Script.READABLE, 10)
                .feed("a").arrive(Script.T, 5013, 81, 50, 0, Script.ON)
                .feed("bcd").arrive(Script.T, 5010, 81, 50, 0, Script.ON)
                .figures(Script.READABLE, 14).read("0123456789bcda").read(StreamEnd.NONE);
        Script.answered("LAST of the old stream", 100, 30, 0)
                .arrive(Script.T + Script.L, 5001, 1001, 30, 0, Script.ALONE).read(StreamEnd.OVER)
                .abort().read(StreamEnd.OVER).begin(5, true).illegalState("read()", e -> e.read());
        Script.answered("both LASTs of the old stream", 100, 30, 0).close().sends(Script.T + Script.L, 1001, 0)
                .arrive(Script.T + Script.L, 5003, 1001, 30, 0, Script.LEAVING).abort()
                .sends(Script.R + Script.T, 1002, 0).begin(1000, true)
                .arrive(Script.O, 5000, 0, 30, 0, Script.ANSWERING).sends(Script.O + Script.T, 1000, 0)
                .feed("abcd").arrive(Script.T, 5001, 1001, 30, 0, Script.ON).figures(Script.EXPECTED, 5005)
                .arrive(Script.T + Script.L, 5005, 1001, 30, 0, Script.ALONE).sends(Script.T, 1001, 0)
                .close().sends(Script.T + Script.L, 1001, 0);
    }

    private static void forgetsWhatWasMeasured() {
        new Script("measured before", 100, 50).begin(1000, false).sends(Script.O, 1000, 0).run(40, 40)
                .arrive(Script.O + Script.T, 5000, 1001, 30, 0, Script.ON)
                .figures(Script.SMOOTH, 320, Script.SPREAD, 80, Script.WAIT, 120)
                .write("a").sends(Script.T, 1001, 1).abort().sends(Script.R + Script.T, 1002, 0)
                .begin(2000, false)
                .figures(Script.SMOOTH, 0, Script.SPREAD, 0, Script.WAIT, 60)
                .run(5, 45).sends(Script.O, 2000, 0).run(3, 48)
                .arrive(Script.O + Script.T, 9, 2001, 30, 0, Script.ON)
                .figures(Script.SMOOTH, 24, Script.SPREAD, 6, Script.WAIT, 20);
    }

    private static void keepsAReset() {
        new Script("a reset is kept", 100, 50).arrive(Script.O, 9, 0, 5, 5, Script.FREE).begin(7, false)
                .sends(Script.R + Script.T, 0, 10, 0, 0, "")
                .sends(Script.O, 7, 0, 2048, 100, "").sendsNothing();
        Script.answered("abort's reset is kept", 100, 30, 0).abort().begin(7, true)
                .sends(Script.R + Script.T, 1001, 5001, 0, 0, "").sendsNothing();
        Script.answered("a thanks is not kept", 100, 30, 0).feed("a")
                .arrive(Script.T, 5001, 1001, 9, 0, Script.ON)
                .arrive(Script.R, 5002, 1001, 9, 0, Script.ABORTED).begin(7, true).sendsNothing();
    }

    private static void keepsWhatIsOutsideTheStream() {
        new Script("time, fed bytes and the made segment stay", 100, 50).run(30, 30).feed("abc")
                .begin(7, false).sends(Script.O, 7, 0).close().begin(8, true)
                .segment(Script.O, 7, 0, 2048, 100, 0)
                .feed(1, 1, 4).run(1, 31);
    }
}
