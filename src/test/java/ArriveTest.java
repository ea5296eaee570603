/** Promise 12: arrive, state by state. */
public final class ArriveTest {
    private static final int FAR = Integer.MIN_VALUE;

    public static void main(String[] args) {
        refusesWrongParts();
        whenEnded();
        whenListening();
        whenAsking();
        fitsOrNot();
        resets();
        opensAndThankless();
        whenAnswering();
        thanks();
        windows();
        bytes();
        lastOfThePeer();
        lastThankedFor();
        inOtherStates();
        Script.finish();
    }

    private static void refusesWrongParts() {
        int[][] wrong = {{-1, 0, 0}, {16, 0, 0}, {FAR, 0, 0}, {0, -1, 0}, {0, 65536, 0}, {0, 0, -1}, {0, 0, 65536},
            {0, Integer.MAX_VALUE, 0}, {0, 0, FAR}};
        Script s = new Script("wrong parts", 100, 50).feed("abc");
        for (int[] w : wrong) {
            s.illegalArgument("arrive(" + w[0] + ", .., " + w[1] + ", " + w[2] + ")",
                    e -> e.arrive(w[0], 5, 5, w[1], w[2]));
        }
        s.sendsNothing().arrive(0, 10, 0, 65535, 65535, Script.FREE).sends(Script.R + Script.T, 0, 13, 0, 0, "")
                .arrive(15, 10, 0, 0, 0, Script.FREE).sendsNothing();
    }

    private static void whenEnded() {
        Script s = new Script("FREE", 100, 50);
        s.feed("abc").arrive(Script.O + Script.L, Integer.MAX_VALUE, 5, 0, 0, Script.FREE)
                .sends(Script.R + Script.T, 0, FAR + 4, 0, 0, "").sendsNothing()
                .arrive(Script.O + Script.T, 10, 5, 0, 0, Script.FREE).sends(Script.R, 5, 0, 0, 0, "").sendsNothing()
                .arrive(Script.R, 10, 5, 0, 0, Script.FREE).arrive(Script.R + Script.T, 10, 5, 0, 0, Script.FREE)
                .sendsNothing();
        new Script("ABORTED", 100, 50).begin(5, true).abort().arrive(0, 10, 5, 0, 0, Script.ABORTED)
                .sends(Script.R + Script.T, 0, 10, 0, 0, "").arrive(Script.T, 10, -5, 0, 0, Script.ABORTED)
                .sends(Script.R, -5, 0, 0, 0, "").arrive(Script.R, 10, 5, 0, 0, Script.ABORTED).sendsNothing();
    }

    private static void whenListening() {
        new Script("LISTENING", 100, 50).begin(1000, true).arrive(Script.R, 1, 2, 3, 4, Script.LISTENING)
                .arrive(Script.R + Script.T + Script.O, 1, 2, 3, 4, Script.LISTENING)
                .arrive(Script.R + Script.O, 1, 2, 3, 4, Script.LISTENING).sendsNothing()
                .arrive(Script.T + Script.O, 1, 2, 3, 4, Script.LISTENING).sends(Script.R, 2, 0, 0, 0, "")
                .arrive(0, 1, 2, 3, 4, Script.LISTENING).feed("a")
                .arrive(Script.L, 1, 2, 3, 4, Script.LISTENING).sendsNothing()
                .feed("abc").arrive(Script.O + Script.L, 5000, 77, 50, 101, Script.ANSWERING)
                .figures(Script.EXPECTED, 5001, Script.PIECE, 100, Script.WINDOW, 50, Script.NEXT, 1001,
                        Script.OLDEST, 1000, Script.READABLE, 0)
                .sends(Script.O + Script.T, 1000, 5001, 2048, 100, "").sendsNothing();
        // the window was told by number 5000 and, without THANKS, by FIRST
        new Script("LISTENING, window", 100, 50).begin(1000, true).arrive(Script.O, 5000, 0, 50, 1, Script.ANSWERING)
                .figures(Script.PIECE, 1).arrive(Script.T, 5001, 1001, 51, 0, Script.ON).figures(Script.WINDOW, 51);
    }

    private static void whenAsking() {
        Script s = new Script("ASKING", 100, 50).begin(1000, false).sends(Script.O, 1000, 0);
        s.arrive(Script.T, 1, 1000, 9, 9, Script.ASKING).sends(Script.R, 1000, 0, 0, 0, "")
                .arrive(Script.T + Script.O, 1, 1002, 9, 9, Script.ASKING).sends(Script.R, 1002, 0, 0, 0, "")
                .arrive(Script.T + Script.R, 1, 1002, 9, 9, Script.ASKING).sendsNothing()
                .arrive(Script.R, 1, 1001, 9, 9, Script.ASKING).arrive(Script.R + Script.O, 1, 1001, 9, 9, Script.ASKING)
                .arrive(Script.T, 1, 1001, 9, 9, Script.ASKING).arrive(0, 1, 1001, 9, 9, Script.ASKING)
                .arrive(Script.L, 1, 1001, 9, 9, Script.ASKING).sendsNothing()
                .figures(Script.EXPECTED, 0, Script.WINDOW, 0, Script.ALARM, 60, Script.OLDEST, 1000)
                .arrive(Script.T + Script.R + Script.O, 1, 1001, 9, 9, Script.ABORTED).sendsNothing()
                .figures(Script.ALARM, 0);
        new Script("ASKING, answered", 100, 50).begin(1000, false).write("ab").sends(Script.O, 1000, 0)
                .feed("xyz").arrive(Script.O + Script.T + Script.L, 5000, 1001, 50, 0, Script.ON)
                .figures(Script.EXPECTED, 5001, Script.PIECE, 100, Script.WINDOW, 50, Script.OLDEST, 1001,
                        Script.NEXT, 1001, Script.READABLE, 0, Script.OUT_BYTES, 2, Script.ALARM, 0)
                .sends(Script.T, 1001, 5001, 2048, 0, "ab").sendsNothing();
        new Script("ASKING, answered before it was sent", 100, 50).begin(1000, false)
                .arrive(Script.O + Script.T, 5000, 1001, 50, 0, Script.ON).sends(Script.T, 1001, 0).sendsNothing();
        new Script("both ask", 100, 50).begin(1000, false).sends(Script.O, 1000, 0)
                .feed("xyz").arrive(Script.O + Script.L, 5000, 1001, 50, 20, Script.ANSWERING)
                .figures(Script.EXPECTED, 5001, Script.PIECE, 20, Script.WINDOW, 50, Script.OLDEST, 1000,
                        Script.NEXT, 1001, Script.ALARM, 60)
                .sends(Script.O + Script.T, 1000, 5001, 2048, 100, "").sendsNothing()
                .arrive(Script.R, 5001, 0, 0, 0, Script.ABORTED);
        // told by 5000 and by 1001: the same number with an earlier thanked one does not tell
        new Script("who told the window", 100, 50).begin(1000, false).sends(Script.O, 1000, 0)
                .arrive(Script.O + Script.T, 5000, 1001, 50, 0, Script.ON).sends(Script.T, 1001, 0)
                .arrive(Script.T, 5001, 1000, 60, 0, Script.ON).figures(Script.WINDOW, 50)
                .feed("ab").arrive(Script.T, 5000, 1001, 61, 0, Script.ON).figures(Script.WINDOW, 61)
                .feed("abc").arrive(Script.T, 4999, 1001, 62, 0, Script.ON).figures(Script.WINDOW, 61);
    }

    private static void fitsOrNot() {
        Script s = Script.answered("nothing taken up", 100, 9, 0);
        s.arrive(0, 5001, 0, 0, 0, Script.ON).sendsNothing().arrive(0, 7048, 0, 0, 0, Script.ON).sendsNothing()
                .arrive(0, 7049, 0, 0, 0, Script.ON).sends(Script.T, 1001, 5001, 2048, 0, "")
                .arrive(0, 5000, 0, 0, 0, Script.ON).sends(Script.T, 1001, 0)
                .arrive(0, 5001 + FAR, 0, 0, 0, Script.ON).sends(Script.T, 1001, 0)
                .arrive(Script.R, 5000, 0, 0, 0, Script.ON).arrive(Script.R, 7049, 0, 0, 0, Script.ON).sendsNothing()
                .arrive(Script.R + Script.L, 5000, 0, 0, 0, Script.ON).sendsNothing();
        Script t = Script.answered("some numbers taken up", 100, 9, 0);
        t.feed("ab").arrive(0, 4999, 0, 0, 0, Script.ON).sends(Script.T, 1001, 0)
                .feed("ab").arrive(0, 5000, 0, 0, 0, Script.ON).sendsNothing()
                .feed("a").arrive(Script.L, 5000, 0, 0, 0, Script.ON).sendsNothing()
                .arrive(Script.L, 5000, 0, 0, 0, Script.ON).sends(Script.T, 1001, 0)
                .feed("ab").arrive(0, 7048, 0, 0, 0, Script.ON).sendsNothing()
                .feed("ab").arrive(0, 7049, 0, 0, 0, Script.ON).sends(Script.T, 1001, 0)
                .feed("ab").arrive(0, 5001 + FAR, 0, 0, 0, Script.ON).sends(Script.T, 1001, 0)
                .feed("ab").arrive(0, 5000 + FAR, 0, 0, 0, Script.ON).sends(Script.T, 1001, 0)
                .figures(Script.READABLE, 0);
        Script full = Script.answered("no room", 100, 9, 0)
                .feed(Script.times("x", 1460)).arrive(Script.T, 5001, 1001, 9, 0, Script.ON)
                .feed(Script.times("y", 590)).arrive(Script.T, 6461, 1001, 9, 0, Script.ON)
                .figures(Script.ROOM, 0, Script.EXPECTED, 7049).sends(Script.T, 1001, 7049, 0, 0, "");
        full.arrive(Script.T, 7049, 1001, 10, 0, Script.ON).sendsNothing().figures(Script.WINDOW, 10)
                .arrive(Script.T, 7050, 1001, 11, 0, Script.ON).sends(Script.T, 1001, 0).figures(Script.WINDOW, 10)
                .arrive(Script.T + Script.L, 7049, 1001, 11, 0, Script.ON).sends(Script.T, 1001, 0)
                .feed("a").arrive(Script.T, 7049, 1001, 11, 0, Script.ON).sends(Script.T, 1001, 0)
                .feed("ab").arrive(Script.T, 7048, 1001, 11, 0, Script.ON).sends(Script.T, 1001, 0)
                .feed("a").arrive(Script.R, 7049, 0, 0, 0, Script.ON).sendsNothing()
                .feed("ab").arrive(Script.R, 7048, 0, 0, 0, Script.ON).sendsNothing()
                .read("x").feed("a").arrive(Script.T, 7049, 1001, 11, 0, Script.ON)
                .figures(Script.ROOM, 0, Script.EXPECTED, 7050);
    }

    private static void resets() {
        Script.answered("ON", 100, 9, 0).arrive(Script.R, 5002, 0, 0, 0, Script.ON)
                .sends(Script.T, 1001, 5001, 2048, 0, "").arrive(Script.R, 7049, 0, 0, 0, Script.ON).sendsNothing()
                .feed("a").arrive(Script.R + Script.O, 5001, 0, 0, 0, Script.ABORTED).sendsNothing();
        Script.answered("LEAVING", 100, 9, 0).close().arrive(Script.R, 5001, 0, 0, 0, Script.ABORTED).sendsNothing();
        Script.answered("LEFT", 100, 9, 0).close().sends(Script.L + Script.T, 1001, 0)
                .arrive(Script.T, 5001, 1002, 9, 0, Script.LEFT).arrive(Script.R, 5001, 0, 0, 0, Script.ABORTED);
        Script.answered("ALONE", 100, 9, 0).arrive(Script.L + Script.T, 5001, 1001, 9, 0, Script.ALONE)
                .arrive(Script.R, 5001, 0, 0, 0, Script.ALONE).arrive(Script.R, 5002, 0, 0, 0, Script.ABORTED);
        Script.answered("ENDING", 100, 9, 0).arrive(Script.L + Script.T, 5001, 1001, 9, 0, Script.ALONE).close()
                .arrive(Script.R, 5002, 0, 0, 0, Script.FREE).sendsNothing();
        Script.answered("PARTING", 100, 9, 0).close().arrive(Script.L + Script.T, 5001, 1001, 9, 0, Script.PARTING)
                .arrive(Script.R, 5002, 0, 0, 0, Script.FREE).sendsNothing();
        Script.answered("QUIET", 100, 9, 0).close().sends(Script.L + Script.T, 1001, 0)
                .arrive(Script.L + Script.T, 5001, 1002, 9, 0, Script.QUIET)
                .arrive(Script.R, 5003, 0, 0, 0, Script.QUIET).sends(Script.T, 1002, 0)
                .arrive(Script.R, 5002, 0, 0, 0, Script.FREE).sendsNothing();
        new Script("ANSWERING, listened", 100, 50).begin(1000, true).arrive(Script.O, 5000, 0, 9, 30, Script.ANSWERING)
                .write("abc").sends(Script.O + Script.T, 1000, 0).run(60, 60)
                .arrive(Script.T, 4000, 0, 0, 0, Script.ANSWERING)
                .arrive(Script.R, 5001, 0, 0, 0, Script.LISTENING).sendsNothing()
                .figures(Script.OLDEST, 1000, Script.NEXT, 1000, Script.WINDOW, 0, Script.EXPECTED, 0, Script.WAIT, 60,
                        Script.OUT_BYTES, 0, Script.TRIES, 0, Script.PIECE, 100, Script.ALARM, 0)
                .arrive(Script.O, 8000, 0, 9, 30, Script.ANSWERING)
                .sends(Script.O + Script.T, 1000, 8001, 2048, 100, "")
                .arrive(Script.R, 8001, 0, 0, 0, Script.LISTENING);
        new Script("ANSWERING, asked", 100, 50).begin(1000, false).arrive(Script.O, 5000, 0, 9, 30, Script.ANSWERING)
                .arrive(Script.R, 5002, 0, 0, 0, Script.ANSWERING).arrive(Script.R, 5001, 0, 0, 0, Script.ABORTED)
                .sendsNothing();
        new Script("a reset that is to be sent stays", 100, 50).begin(1000, true)
                .arrive(Script.O, 5000, 0, 9, 30, Script.ANSWERING).arrive(Script.T, 5001, 44, 9, 0, Script.ANSWERING)
                .arrive(Script.R, 5001, 0, 0, 0, Script.LISTENING).sends(Script.R, 44, 0, 0, 0, "").sendsNothing();
    }

    private static void opensAndThankless() {
        Script.answered("OPEN when ON", 100, 9, 0).feed("abc").arrive(Script.O + Script.T, 5001, 1001, 50, 0, Script.ON)
                .figures(Script.READABLE, 0, Script.WINDOW, 9, Script.EXPECTED, 5001)
                .sends(Script.T, 1001, 0).sendsNothing();
        Script.answered("no THANKS when ON", 100, 9, 0).feed("abc").arrive(Script.L, 5001, 1001, 50, 0, Script.ON)
                .figures(Script.READABLE, 0, Script.WINDOW, 9, Script.EXPECTED, 5001).sendsNothing();
    }

    private static void whenAnswering() {
        Script s = new Script("ANSWERING", 100, 50).begin(1000, true)
                .arrive(Script.O, 5000, 0, 9, 0, Script.ANSWERING).write("ab").sends(Script.O + Script.T, 1000, 0);
        s.feed("xy").arrive(Script.T, 5001, 1000, 50, 0, Script.ANSWERING).sends(Script.R, 1000, 0, 0, 0, "")
                .arrive(Script.T, 5001, 1002, 50, 0, Script.ANSWERING).sends(Script.R, 1002, 0, 0, 0, "")
                .sendsNothing().figures(Script.WINDOW, 9, Script.READABLE, 0)
                .feed("xy").arrive(Script.T + Script.L, 5001, 1001, 50, 0, Script.ALONE)
                .figures(Script.WINDOW, 50, Script.READABLE, 2, Script.EXPECTED, 5004, Script.OLDEST, 1001,
                        Script.OUT_BYTES, 2, Script.ALARM, 0)
                .sends(Script.T, 1001, 5004, 2046, 0, "ab").sendsNothing();
        new Script("ANSWERING, closed, and the peer closes", 100, 50).begin(1000, true)
                .arrive(Script.O, 5000, 0, 9, 0, Script.ANSWERING).close()
                .arrive(Script.T + Script.L, 5001, 1001, 50, 0, Script.PARTING)
                .sends(Script.T + Script.L, 1001, 5002, 2048, 0, "").sendsNothing();
    }

    private static void thanks() {
        Script.answered("thanked for what was not sent", 100, 9, 0).write("abc").sends(Script.T, 1001, 3)
                .feed("xy").arrive(Script.T + Script.L, 5001, 1005, 50, 0, Script.ON)
                .figures(Script.OLDEST, 1001, Script.WINDOW, 9, Script.READABLE, 0)
                .sends(Script.T, 1004, 5001, 2048, 0, "").sendsNothing()
                .feed("xy").arrive(Script.T, 5001, 1004, 50, 0, Script.ON)
                .figures(Script.OLDEST, 1004, Script.WINDOW, 50, Script.READABLE, 2, Script.OUT_BYTES, 0);
        Script.answered("thanked for long ago", 100, 9, 0).feed("xy")
                .arrive(Script.T, 5001, 900, 50, 0, Script.ON)
                .figures(Script.OLDEST, 1001, Script.WINDOW, 9, Script.READABLE, 2).sends(Script.T, 1001, 0);
        // neither is before the other: half the way round, told by a later number
        Script.answered("half the way round", 100, 9, 0).arrive(Script.T, 5001, 1001 + FAR, 50, 0, Script.ON)
                .figures(Script.OLDEST, 1001, Script.WINDOW, 9)
                .arrive(Script.T, 5002, 1001 + FAR, 51, 0, Script.ON)
                .figures(Script.OLDEST, 1001, Script.WINDOW, 51).sendsNothing()
                // what told last thanked for is half the way round from 1001: not "not behind" it
                .arrive(Script.T, 5002, 1001, 52, 0, Script.ON).figures(Script.WINDOW, 51)
                .arrive(Script.T, 5003, 1001, 53, 0, Script.ON).figures(Script.WINDOW, 53);
    }

    private static void windows() {
        Script.answered("later segments tell", 100, 9, 0)
                .arrive(Script.T, 5001, 1001, 10, 0, Script.ON).figures(Script.WINDOW, 10)
                .feed("b").arrive(Script.T, 5002, 1001, 11, 0, Script.ON).figures(Script.WINDOW, 11)
                .arrive(Script.T, 5001, 1001, 12, 0, Script.ON).figures(Script.WINDOW, 11)
                .write("abc").sends(Script.T, 1001, 3)
                .arrive(Script.T, 5002, 1003, 13, 0, Script.ON).figures(Script.WINDOW, 13)
                .arrive(Script.T, 5002, 1003, 14, 0, Script.ON).figures(Script.WINDOW, 14)
                .arrive(Script.T, 5001, 1004, 15, 0, Script.ON).figures(Script.WINDOW, 14, Script.OLDEST, 1004)
                .arrive(Script.T, 5002, 1003, 16, 0, Script.ON).figures(Script.WINDOW, 14)
                .arrive(Script.T, 5002, 1004, 65535, 0, Script.ON).figures(Script.WINDOW, 65535);
        Script.answered("a closed window is told again", 100, 9, 0).write("abc").sends(Script.T, 1001, 3).run(60, 60)
                .figures(Script.TRIES, 2).arrive(Script.T, 5001, 1001, 8, 0, Script.ON).figures(Script.TRIES, 2)
                .arrive(Script.T, 5001, 1001, 0, 0, Script.ON).figures(Script.TRIES, 0, Script.ALARM, 80)
                .run(80, 140).figures(Script.TRIES, 1).arrive(Script.T, 5001, 1001, 3, 0, Script.ON)
                .figures(Script.TRIES, 0, Script.ALARM, 160);
    }

    private static void bytes() {
        Script.answered("twice, late, in another order", 100, 9, 0)
                .feed("ef").arrive(Script.T, 5005, 1001, 9, 0, Script.ON).sends(Script.T, 1001, 5001, 2048, 0, "")
                .feed("CDEFG").arrive(Script.T, 5003, 1001, 9, 0, Script.ON).figures(Script.READABLE, 0)
                .sends(Script.T, 1001, 5001, 2048, 0, "")
                .feed("ab").arrive(Script.T, 5001, 1001, 9, 0, Script.ON)
                .figures(Script.READABLE, 7, Script.EXPECTED, 5008).sends(Script.T, 1001, 5008, 2041, 0, "")
                .feed("12345678").arrive(Script.T, 5001, 1001, 9, 0, Script.ON)
                .figures(Script.READABLE, 8, Script.EXPECTED, 5009)
                .read("abCDefG8").read(StreamEnd.NONE);
        Script.answered("at the end of the room", 100, 9, 0).feed("yz!").arrive(Script.T, 7047, 1001, 9, 0, Script.ON)
                .feed(Script.times("x", 1460)).arrive(Script.T, 5001, 1001, 9, 0, Script.ON)
                .feed(Script.times("x", 586)).arrive(Script.T, 6461, 1001, 9, 0, Script.ON)
                .figures(Script.READABLE, 2048, Script.ROOM, 0, Script.EXPECTED, 7049)
                .read("xx").feed("w").arrive(Script.T, 7049, 1001, 9, 0, Script.ON).figures(Script.READABLE, 2047)
                .read("x").figures(Script.EXPECTED, 7050);
        Script.answered("in LEFT", 100, 9, 0).close().sends(Script.L + Script.T, 1001, 0)
                .arrive(Script.T, 5001, 1002, 9, 0, Script.LEFT).feed("ab")
                .arrive(Script.T, 5001, 1002, 9, 0, Script.LEFT).sends(Script.T, 1002, 5003, 2046, 0, "").read("ab");
        Script.answered("in LEAVING", 100, 9, 0).close().feed("ab").arrive(Script.T, 5001, 1001, 9, 0, Script.LEAVING)
                .sends(Script.T + Script.L, 1001, 5003, 2046, 0, "").read("ab");
    }

    private static void lastOfThePeer() {
        Script.answered("with its bytes", 100, 9, 0).feed("ab").arrive(Script.T + Script.L, 5001, 1001, 9, 0, Script.ALONE)
                .figures(Script.EXPECTED, 5004, Script.READABLE, 2, Script.ROOM, 2046)
                .sends(Script.T, 1001, 5004, 2046, 0, "").sendsNothing();
        Script.answered("before its bytes", 100, 9, 0).arrive(Script.T + Script.L, 5003, 1001, 9, 0, Script.ON)
                .sends(Script.T, 1001, 5001, 2048, 0, "").feed("ab")
                .arrive(Script.T, 5001, 1001, 9, 0, Script.ALONE).figures(Script.EXPECTED, 5004).read("ab");
        Script.answered("the first one stays", 100, 9, 0).arrive(Script.T + Script.L, 5003, 1001, 9, 0, Script.ON)
                .arrive(Script.T + Script.L, 5002, 1001, 9, 0, Script.ON)
                .feed("a").arrive(Script.T, 5001, 1001, 9, 0, Script.ON).figures(Script.EXPECTED, 5002)
                .feed("bcdef").arrive(Script.T + Script.L, 5002, 1001, 9, 0, Script.ALONE)
                .figures(Script.EXPECTED, 5004).read("ab").read(StreamEnd.OVER);
        Script.answered("what came behind counts for nothing", 100, 9, 0)
                .feed("XYZ").arrive(Script.T, 5002, 1001, 9, 0, Script.ON)
                .arrive(Script.T + Script.L, 5003, 1001, 9, 0, Script.ON).figures(Script.EXPECTED, 5001)
                .feed("a").arrive(Script.T, 5001, 1001, 9, 0, Script.ALONE)
                .figures(Script.EXPECTED, 5004, Script.READABLE, 2).read("aX").read(StreamEnd.OVER);
        Script.answered("at once, before what came behind", 100, 9, 0)
                .feed("XYZ").arrive(Script.T, 5002, 1001, 9, 0, Script.ON)
                .arrive(Script.T + Script.L, 5001, 1001, 9, 0, Script.ALONE)
                .figures(Script.EXPECTED, 5002, Script.READABLE, 0).read(StreamEnd.OVER);
        Script.answered("behind the room", 100, 9, 0).arrive(Script.T + Script.L, 7048, 1001, 9, 0, Script.ON)
                .feed("x").arrive(Script.T + Script.L, 7048, 1001, 9, 0, Script.ON)
                .feed(Script.times("x", 1460)).arrive(Script.T, 5001, 1001, 9, 0, Script.ON)
                .feed(Script.times("x", 587)).arrive(Script.T, 6461, 1001, 9, 0, Script.ALONE)
                .figures(Script.EXPECTED, 7049, Script.READABLE, 2047);
        Script.answered("no room for it", 100, 9, 0)
                .feed(Script.times("x", 1460)).arrive(Script.T, 5001, 1001, 9, 0, Script.ON)
                .feed(Script.times("x", 588)).arrive(Script.T + Script.L, 6461, 1001, 9, 0, Script.ON)
                .figures(Script.EXPECTED, 7049, Script.READABLE, 2048).read("x")
                .arrive(Script.T, 7049, 1001, 9, 0, Script.ON)
                .arrive(Script.T + Script.L, 7049, 1001, 9, 0, Script.ALONE);
        Script.answered("an old one", 100, 9, 0).feed("abc").arrive(Script.T, 5001, 1001, 9, 0, Script.ON)
                .feed("abc").arrive(Script.T + Script.L, 5000, 1001, 9, 0, Script.ON)
                .figures(Script.EXPECTED, 5004).feed("d").arrive(Script.T, 5004, 1001, 9, 0, Script.ON)
                .figures(Script.EXPECTED, 5005);
        Script.answered("in LEAVING, then LEFT", 100, 9, 0).close().sends(Script.T + Script.L, 1001, 0)
                .arrive(Script.T, 5001, 1002, 9, 0, Script.LEFT).run(3, 3)
                .arrive(Script.T + Script.L, 5001, 1002, 9, 0, Script.QUIET)
                .sends(Script.T, 1002, 5002, 2048, 0, "").sendsNothing().run(50, 53).state(Script.FREE);
    }

    private static void lastThankedFor() {
        Script.answered("LEAVING, bytes with the thanks", 100, 9, 0).close().sends(Script.T + Script.L, 1001, 0)
                .feed("ab").arrive(Script.T, 5001, 1002, 9, 0, Script.LEFT).figures(Script.READABLE, 2)
                .sends(Script.T, 1002, 5003, 2046, 0, "").sendsNothing();
        Script.answered("LEAVING, LAST with the thanks", 100, 9, 0).close().sends(Script.T + Script.L, 1001, 0)
                .feed("ab").arrive(Script.T + Script.L, 5001, 1002, 9, 0, Script.QUIET).figures(Script.READABLE, 2)
                .sends(Script.T, 1002, 5004, 2046, 0, "").sendsNothing();
        Script.answered("LAST not sent yet", 100, 9, 0).close().arrive(Script.T, 5001, 1001, 9, 0, Script.LEAVING);
        Script.answered("PARTING", 100, 9, 0).close().arrive(Script.T + Script.L, 5001, 1001, 9, 0, Script.PARTING)
                .arrive(Script.T, 5002, 1001, 9, 0, Script.PARTING).sends(Script.T + Script.L, 1001, 0).run(10, 10)
                .feed("x").arrive(Script.T, 5002, 1002, 9, 0, Script.QUIET).figures(Script.ALARM, 0)
                .sends(Script.T, 1002, 5002, 2048, 0, "").run(49, 59).state(Script.QUIET).run(1, 60)
                .state(Script.FREE);
        Script.answered("ENDING", 100, 9, 0).write("ab").arrive(Script.T + Script.L, 5001, 1001, 9, 0, Script.ALONE)
                .close().sends(Script.T + Script.L, 1001, 2).arrive(Script.T, 5002, 1003, 9, 0, Script.ENDING)
                .feed("x").arrive(Script.T, 5002, 1004, 8, 0, Script.FREE).sendsNothing()
                .figures(Script.ALARM, 0, Script.OLDEST, 1004, Script.WINDOW, 8, Script.OUT_BYTES, 0);
    }

    private static void inOtherStates() {
        Script.answered("bytes when ALONE", 100, 9, 0).arrive(Script.T + Script.L, 5001, 1001, 9, 0, Script.ALONE)
                .sends(Script.T, 1001, 0).feed("ab").arrive(Script.T, 5002, 1001, 8, 0, Script.ALONE)
                .figures(Script.READABLE, 0, Script.EXPECTED, 5002, Script.WINDOW, 8)
                .sends(Script.T, 1001, 5002, 2048, 0, "").arrive(Script.T + Script.L, 5002, 1001, 9, 0, Script.ALONE)
                .figures(Script.EXPECTED, 5002).sends(Script.T, 1001, 5002, 2048, 0, "").sendsNothing()
                .arrive(Script.T, 5002, 1001, 9, 0, Script.ALONE).sendsNothing();
        Script.answered("QUIET", 100, 9, 0).close().sends(Script.T + Script.L, 1001, 0)
                .arrive(Script.T + Script.L, 5001, 1002, 9, 0, Script.QUIET).sends(Script.T, 1002, 0)
                .arrive(Script.T, 5002, 1002, 7, 0, Script.QUIET).figures(Script.WINDOW, 7).sendsNothing()
                .arrive(Script.T, 5002, 1003, 6, 0, Script.QUIET).figures(Script.WINDOW, 7)
                .sends(Script.T, 1002, 0).arrive(Script.O, 5002, 1002, 6, 0, Script.QUIET).sends(Script.T, 1002, 0)
                .feed("x").arrive(Script.T, 5002, 1002, 5, 0, Script.QUIET).figures(Script.READABLE, 0)
                .sends(Script.T, 1002, 0);
    }
}
