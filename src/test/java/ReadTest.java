/** Promise 4: read. */
public final class ReadTest {
    public static void main(String[] args) {
        readsInOrder();
        tellsWhenThePeerIsOver();
        isIllegalWithoutAStream();
        staysAfterTheEnd();
        thanksWhenRoomIsBack();
        thanksNotInOtherStates();
        Script.finish();
    }

    private static void readsInOrder() {
        Script.answered("bytes in order", 100, 99, 0).read(StreamEnd.NONE)
                .feed("\u0000\u007f\u0080\u00ff").arrive(Script.T, 5001, 1001, 9, 0, Script.ON)
                .figures(Script.READABLE, 4, Script.ROOM, 2044, Script.EXPECTED, 5005)
                .read(0).read(127).read(128).read(255).read(StreamEnd.NONE)
                .figures(Script.READABLE, 0, Script.ROOM, 2048, Script.EXPECTED, 5005)
                .feed("gap").arrive(Script.T, 5006, 1001, 9, 0, Script.ON).read(StreamEnd.NONE)
                .feed("!").arrive(Script.T, 5005, 1001, 9, 0, Script.ON).read("!gap").read(StreamEnd.NONE);
    }

    private static void tellsWhenThePeerIsOver() {
        Script.answered("the peer's LAST", 100, 99, 0)
                .arrive(Script.T + Script.L, 5003, 1001, 9, 0, Script.ON).read(StreamEnd.NONE)
                .feed("a").arrive(Script.T, 5001, 1001, 9, 0, Script.ON).read("a").read(StreamEnd.NONE)
                .feed("b").arrive(Script.T, 5002, 1001, 9, 0, Script.ALONE).read("b")
                .read(StreamEnd.OVER).read(StreamEnd.OVER).figures(Script.EXPECTED, 5004, Script.ROOM, 2048);
    }

    private static void isIllegalWithoutAStream() {
        new Script("nothing to read", 100, 50).illegalState("read() when FREE", e -> e.read()).begin(1, true)
                .illegalState("read() when LISTENING", e -> e.read())
                .arrive(Script.O, 5000, 0, 9, 0, Script.ANSWERING).read(StreamEnd.NONE).abort()
                .illegalState("read() when ABORTED", e -> e.read()).begin(1, false).read(StreamEnd.NONE).close()
                .illegalState("read() when FREE again", e -> e.read());
        Script.answered("left and parting", 100, 9, 0).close().read(StreamEnd.NONE)
                .sends(Script.T + Script.L, 1001, 0).arrive(Script.T, 5001, 1002, 9, 0, Script.LEFT)
                .read(StreamEnd.NONE).arrive(Script.T + Script.L, 5001, 1002, 9, 0, Script.QUIET)
                .read(StreamEnd.OVER).run(50, 50).state(Script.FREE).read(StreamEnd.OVER);
    }

    private static void staysAfterTheEnd() {
        Script.answered("read when aborted", 100, 99, 0)
                .feed("abc").arrive(Script.T, 5001, 1001, 9, 0, Script.ON).abort()
                .figures(Script.READABLE, 3).read("abc").illegalState("read() when all was read", e -> e.read());
    }

    /** A full row of the peer's bytes: 1460 and then 588 come. */
    private static Script full(String name, int largest, int peersLargest) {
        return Script.answered(name, largest, 99, peersLargest)
                .feed(Script.times("x", 1460)).arrive(Script.T, 5001, 1001, 9, 0, Script.ON)
                .feed(Script.times("y", 588)).arrive(Script.T, 6461, 1001, 9, 0, Script.ON)
                .figures(Script.ROOM, 0, Script.READABLE, 2048, Script.EXPECTED, 7049)
                .sends(Script.T, 1001, 7049, 0, 0, "").sendsNothing();
    }

    private static void thanksWhenRoomIsBack() {
        full("piece 3", 3, 0).read("xx").sendsNothing().read("x")
                .sends(Script.T, 1001, 7049, 3, 0, "").read("x").sendsNothing();
        full("peer's piece 2", 100, 2).read("x").sendsNothing().read("x")
                .sends(Script.T, 1001, 7049, 2, 0, "").read("x").sendsNothing();
        full("piece 1", 1, 0).read("x").sends(Script.T, 1001, 7049, 1, 0, "");
        full("LEAVING", 2, 0).close().sends(Script.T + Script.L, 1001, 0).read("x").sendsNothing()
                .read("x").sends(Script.T, 1002, 7049, 2, 0, "");
        full("LEFT", 2, 0).close().sends(Script.T + Script.L, 1001, 0)
                .arrive(Script.T, 7049, 1002, 9, 0, Script.LEFT).sendsNothing()
                .read("x").sendsNothing().read("x").sends(Script.T, 1002, 7049, 2, 0, "");
        thanksAtMostAt1024();
    }

    private static void thanksAtMostAt1024() {
        Script s = Script.answered("no more than 1024", 1460, 99, 1460)
                .feed(Script.times("x", 1026)).arrive(Script.T, 5001, 1001, 9, 0, Script.ON)
                .sends(Script.T, 1001, 6027, 1022, 0, "");
        s.read("x").figures(Script.ROOM, 1023).sendsNothing()
                .read("x").sends(Script.T, 1001, 6027, 1024, 0, "").read("x").sendsNothing();
    }

    private static void thanksNotInOtherStates() {
        full("ALONE", 2, 0).read("x").feed("").arrive(Script.T + Script.L, 7049, 1001, 9, 0, Script.ALONE)
                .sends(Script.T, 1001, 7050, 1, 0, "").read("x").figures(Script.ROOM, 2).sendsNothing();
        full("PARTING", 2, 0).read("x").close().sends(Script.T + Script.L, 1001, 0)
                .arrive(Script.T + Script.L, 7049, 1001, 9, 0, Script.PARTING)
                .sends(Script.T, 1002, 0).read("x").sendsNothing();
        full("ABORTED", 2, 0).read("x").abort().sends(Script.T + Script.R, 1001, 0).read("x").sendsNothing();
    }
}
