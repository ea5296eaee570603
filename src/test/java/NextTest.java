/** Promise 8: next, with the order of what is to be sent and what each segment carries. */
public final class NextTest {
    public static void main(String[] args) {
        keepsTheOrder();
        sendsTheLaterReset();
        sendsAsPieceAllows();
        sendsAsTheWindowAllows();
        sendsOnlyWhenOn();
        sendsAgainWhateverTheWindow();
        thanksWithWhateverIsSent();
        isSilentAfterTheEnd();
        numbersGoRound();
        Script.finish();
    }

    private static void keepsTheOrder() {
        new Script("reset, OPEN, new", 4, 50).begin(1000, true).arrive(Script.O, 5000, 0, 9, 0, Script.ANSWERING)
                .write("ab").arrive(Script.T, 5001, 7, 9, 0, Script.ANSWERING)
                .arrive(Script.T, 4000, 7, 9, 0, Script.ANSWERING)
                .sends(Script.R, 7, 0, 0, 0, "").sends(Script.O + Script.T, 1000, 5001, 2048, 4, "")
                .sendsNothing();
        Script.answered("again, new, thanks", 4, 99, 0).write("abcdef").sends(Script.T, 1001, 4).run(20, 20)
                .feed("x").arrive(Script.T, 5001, 1001, 99, 0, Script.ON)
                .sends(Script.T, 1001, 5002, 2047, 0, "abcd").sends(Script.T, 1005, 5002, 2047, 0, "ef")
                .sendsNothing();
        Script.answered("again goes before new", 2, 99, 0).write("abcd").sends(Script.T, 1001, 2).run(20, 20)
                .sends(Script.T, 1001, 5001, 2048, 0, "ab").sends(Script.T, 1003, 5001, 2048, 0, "cd").sendsNothing();
        Script.answered("a probe goes before a thanks", 4, 0, 0).write("ab").run(20, 20).feed("x")
                .arrive(Script.T, 5001, 1001, 0, 0, Script.ON).sends(Script.T, 1001, 5002, 2047, 0, "a")
                .sendsNothing();
        new Script("a reset goes before a thanks", 4, 50).begin(1000, true)
                .arrive(Script.O, 5000, 0, 9, 0, Script.ANSWERING).sends(Script.O + Script.T, 1000, 0)
                .arrive(Script.T, 4000, 7, 9, 0, Script.ANSWERING).arrive(Script.T, 5001, 8, 9, 0, Script.ANSWERING)
                .sends(Script.R, 8, 0, 0, 0, "").sends(Script.T, 1001, 5001, 2048, 0, "").sendsNothing();
    }

    private static void sendsTheLaterReset() {
        new Script("two resets", 4, 50).arrive(Script.T, 1, 2, 0, 0, Script.FREE)
                .feed("abc").arrive(Script.L, 10, 3, 0, 0, Script.FREE)
                .sends(Script.R + Script.T, 0, 14, 0, 0, "").sendsNothing();
        new Script("two resets, the other way", 4, 50).arrive(0, 10, 3, 0, 0, Script.FREE)
                .arrive(Script.T, 1, -2, 0, 0, Script.FREE).sends(Script.R, -2, 0, 0, 0, "").sendsNothing();
        new Script("a reset with THANKS is a thanks, too", 4, 50).arrive(0, 10, 3, 0, 0, Script.FREE)
                .begin(1000, false).arrive(Script.O + Script.T, 5000, 1001, 9, 0, Script.ON)
                .sends(Script.R + Script.T, 0, 10, 0, 0, "").sendsNothing();
    }

    private static void sendsAsPieceAllows() {
        Script.answered("own piece", 3, 99, 8).write("abcdefgh").figures(Script.PIECE, 3)
                .sends(Script.T, 1001, 5001, 2048, 0, "abc").sends(Script.T, 1004, 5001, 2048, 0, "def")
                .sends(Script.T, 1007, 5001, 2048, 0, "gh").sendsNothing().figures(Script.NEXT, 1009);
        Script.answered("peer's piece", 8, 99, 3).write("abcd").figures(Script.PIECE, 3)
                .sends(Script.T, 1001, 5001, 2048, 0, "abc").sends(Script.T, 1004, 5001, 2048, 0, "d").sendsNothing();
        Script.answered("piece 1", 1, 99, 3).write("ab").close().sends(Script.T, 1001, 5001, 2048, 0, "a")
                .sends(Script.T + Script.L, 1002, 5001, 2048, 0, "b").sendsNothing();
        Script.answered("the peer tells no largest", 1460, 2000, 0).figures(Script.PIECE, 536)
                .write(Script.times("abcdefgh", 67)).write("i")
                .sends(Script.T, 1001, 536).sends(Script.T, 1537, 1).sendsNothing();
    }

    private static void sendsAsTheWindowAllows() {
        Script.answered("window 5", 4, 5, 0).write("abcdefghi")
                .sends(Script.T, 1001, 5001, 2048, 0, "abcd").sends(Script.T, 1005, 5001, 2048, 0, "e").sendsNothing()
                .arrive(Script.T, 5001, 1003, 5, 0, Script.ON).sends(Script.T, 1006, 5001, 2048, 0, "fg").sendsNothing()
                .arrive(Script.T, 5001, 1003, 2, 0, Script.ON).sendsNothing()
                .arrive(Script.T, 5001, 1008, 1, 0, Script.ON).sends(Script.T, 1008, 5001, 2048, 0, "h").sendsNothing();
        Script.answered("a window that shrinks below what was sent", 4, 5, 0).write("abcdef")
                .sends(Script.T, 1001, 4).arrive(Script.T, 5001, 1001, 2, 0, Script.ON).sendsNothing()
                .arrive(Script.T, 5001, 1003, 2, 0, Script.ON).sendsNothing()
                .arrive(Script.T, 5001, 1003, 3, 0, Script.ON).sends(Script.T, 1005, 5001, 2048, 0, "e");
        Script.answered("LAST needs a number, too", 4, 2, 0).write("ab").close()
                .sends(Script.T, 1001, 5001, 2048, 0, "ab").sendsNothing()
                .arrive(Script.T, 5001, 1001, 3, 0, Script.LEAVING)
                .sends(Script.T + Script.L, 1003, 5001, 2048, 0, "").sendsNothing();
    }

    private static void sendsOnlyWhenOn() {
        new Script("ASKING", 4, 50).begin(1000, false).write("ab").sends(Script.O, 1000, 0).sendsNothing()
                .arrive(Script.O, 5000, 0, 9, 0, Script.ANSWERING)
                .sends(Script.O + Script.T, 1000, 5001, 2048, 4, "").sendsNothing()
                .arrive(Script.T, 5001, 1001, 9, 0, Script.ON).sends(Script.T, 1001, 5001, 2048, 0, "ab").sendsNothing();
        Script.answered("ALONE, then ENDING", 4, 9, 0).arrive(Script.L + Script.T, 5001, 1001, 9, 0, Script.ALONE)
                .write("abcdef").sends(Script.T, 1001, 5002, 2048, 0, "abcd").close()
                .sends(Script.T + Script.L, 1005, 5002, 2048, 0, "ef").sendsNothing();
        Script.answered("PARTING", 4, 9, 0).write("abcdef").close()
                .arrive(Script.L + Script.T, 5001, 1001, 9, 0, Script.PARTING)
                .sends(Script.T, 1001, 5002, 2048, 0, "abcd").sends(Script.T + Script.L, 1005, 5002, 2048, 0, "ef")
                .sendsNothing();
    }

    private static void sendsAgainWhateverTheWindow() {
        Script.answered("window 0 and bytes on their way", 4, 9, 0).write("abc").sends(Script.T, 1001, 3)
                .arrive(Script.T, 5001, 1001, 0, 0, Script.ON).run(20, 20).sends(Script.T, 1001, 5001, 2048, 0, "abc")
                .sendsNothing();
        Script.answered("thanks take back what is sent again", 4, 9, 0).write("abcdef")
                .sends(Script.T, 1001, 4).sends(Script.T, 1005, 2).run(20, 20)
                .arrive(Script.T, 5001, 1002, 9, 0, Script.ON).sendsNothing().figures(Script.ALARM, 40);
        Script.answered("old thanks do not", 4, 9, 0).write("abcdef")
                .sends(Script.T, 1001, 4).arrive(Script.T, 5001, 1003, 9, 0, Script.ON).sends(Script.T, 1005, 2)
                .run(20, 20).arrive(Script.T, 5001, 1003, 9, 0, Script.ON)
                .sends(Script.T, 1003, 5001, 2048, 0, "cdef").sendsNothing();
        Script.answered("sent again is not new: what is behind stays as it was", 4, 99, 0).write("ab")
                .sends(Script.T, 1001, 2).write("cd").run(20, 20).sends(Script.T, 1001, 5001, 2048, 0, "ab")
                .sends(Script.T, 1003, 5001, 2048, 0, "cd").sendsNothing();
    }

    private static void thanksWithWhateverIsSent() {
        Script.answered("new bytes thank, too", 4, 9, 0).feed("x").arrive(Script.T, 5001, 1001, 9, 0, Script.ON)
                .write("a").sends(Script.T, 1001, 5002, 2047, 0, "a").sendsNothing();
        Script.answered("LAST thanks, too", 4, 9, 0).feed("x").arrive(Script.T, 5001, 1001, 9, 0, Script.ON)
                .close().sends(Script.T + Script.L, 1001, 5002, 2047, 0, "").sendsNothing();
        new Script("OPEN thanks, too", 4, 50).begin(1000, true).arrive(Script.O, 5000, 0, 9, 0, Script.ANSWERING)
                .arrive(Script.O, 5000, 0, 9, 0, Script.ANSWERING)
                .sends(Script.O + Script.T, 1000, 5001, 2048, 4, "").sendsNothing();
        Script.answered("two thanks are one", 4, 9, 0).feed("x").arrive(Script.T, 5001, 1001, 9, 0, Script.ON)
                .feed("y").arrive(Script.T, 5002, 1001, 9, 0, Script.ON)
                .sends(Script.T, 1001, 5003, 2046, 0, "").sendsNothing();
    }

    private static void isSilentAfterTheEnd() {
        Script.answered("ABORTED", 4, 9, 0).write("abcdef").sends(Script.T, 1001, 4).feed("x")
                .arrive(Script.T, 5001, 1001, 9, 0, Script.ON).run(20, 20)
                .arrive(Script.R, 5002, 0, 0, 0, Script.ABORTED).sendsNothing();
        Script.answered("QUIET still thanks", 4, 9, 0).close().sends(Script.T + Script.L, 1001, 0)
                .arrive(Script.L + Script.T, 5001, 1001, 9, 0, Script.PARTING)
                .arrive(Script.T, 5002, 1002, 9, 0, Script.QUIET)
                .sends(Script.T, 1002, 5002, 2048, 0, "").sendsNothing();
        Script.answered("FREE thanks no more", 4, 9, 0).close().sends(Script.T + Script.L, 1001, 0)
                .arrive(Script.L + Script.T, 5001, 1002, 9, 0, Script.QUIET).run(50, 50).state(Script.FREE)
                .sendsNothing();
        Script.answered("ENDING thanks no more", 4, 9, 0).arrive(Script.L + Script.T, 5001, 1001, 9, 0, Script.ALONE)
                .close().sends(Script.T + Script.L, 1001, 0).arrive(Script.T, 4000, 1001, 9, 0, Script.ENDING)
                .arrive(Script.T, 5002, 1002, 9, 0, Script.FREE).sendsNothing();
        Script.answered("a probe is gone", 4, 0, 0).write("a").run(20, 20)
                .arrive(Script.R, 5001, 0, 0, 0, Script.ABORTED).sendsNothing();
        new Script("OPEN is gone", 4, 50).begin(1000, false).arrive(Script.R + Script.T, 0, 1001, 0, 0, Script.ABORTED)
                .sendsNothing();
    }

    private static void numbersGoRound() {
        new Script("round", 4, 50).begin(Integer.MAX_VALUE - 2, false).sends(Script.O, Integer.MAX_VALUE - 2, 0)
                .arrive(Script.O + Script.T, -2, Integer.MAX_VALUE - 1, 9, 0, Script.ON).write("abcdef")
                .sends(Script.T, Integer.MAX_VALUE - 1, -1, 2048, 0, "abcd")
                .sends(Script.T, Integer.MIN_VALUE + 2, -1, 2048, 0, "ef")
                .feed("xyz").arrive(Script.T, -1, Integer.MIN_VALUE, 9, 0, Script.ON)
                .figures(Script.OLDEST, Integer.MIN_VALUE, Script.OUT_BYTES, 4, Script.EXPECTED, 2, Script.READABLE, 3)
                .read("xyz").run(20, 20).sends(Script.T, Integer.MIN_VALUE, 2, 2048, 0, "cdef")
                .arrive(Script.T, 2, Integer.MIN_VALUE + 5, 9, 0, Script.ON).figures(Script.OUT_BYTES, 4)
                .sends(Script.T, Integer.MIN_VALUE + 4, 0).sendsNothing()
                .arrive(Script.T, 2, Integer.MIN_VALUE + 4, 9, 0, Script.ON).figures(Script.OUT_BYTES, 0);
    }
}
